import java.lang.reflect.Field;

/**
 * No run of calls makes isSound answer false, so objects are made unsound from inside here. This is
 * the one test that knows how the class holds its state.
 */
public final class UnsoundTest extends Shelves {
  public static void main(String[] arguments) throws Exception {
    moreThanLimit();
    notCleared();
    Check.end("UnsoundTest");
  }

  private static void set(Ownshelf x, int shelf, String name, int number) throws Exception {
    Field shelves = Ownshelf.class.getDeclaredField("shelves");
    shelves.setAccessible(true);
    Object inside = ((Object[]) shelves.get(x))[shelf];
    Field field = inside.getClass().getDeclaredField(name);
    field.setAccessible(true);
    field.setInt(inside, number);
  }

  private static void moreThanLimit() throws Exception {
    Check.part("Promise 36: no SHELF has more THINGS than its LIMIT");
    for (int shelf = 0; shelf < 4; shelf++) {
      Ownshelf x = new Ownshelf();
      put(x, shelf, 1, 2, 3);
      String[] texts = {"[]", "[]", "[]", "[]"};
      texts[shelf] = "[1, 2, 3]";
      set(x, shelf, "limit", 3);
      Check.due("as many", x.isSound(), true);
      Check.due("as many, digest", x.digest(), unwrapped(x, 1, texts).longValue());
      set(x, shelf, "limit", 2);
      Check.due("one more", x.isSound(), false);
      Check.due("one more, digest", x.digest(), unwrapped(x, 0, texts).longValue());
    }
  }

  private static void notCleared() throws Exception {
    Check.part("Promise 36: a copy GIVING AWAY is EMPTY, CLEARED");
    for (int shelf = 0; shelf < 4; shelf++) {
      Ownshelf x = new Ownshelf();
      put(x, shelf, 1);
      // Neither FORTH nor BACK: a WALKER then leaves out the one behind what goes AWAY.
      set(x, shelf, "walk", 2);
      Check.due("one THING", x.isSound(), true);
      put(x, shelf, 2);
      Check.due("one is left", x.isSound(), false);
    }
  }
}
