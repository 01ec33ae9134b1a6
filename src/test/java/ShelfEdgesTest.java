import java.nio.file.Path;

/**
 * What the document says of itself and of shelves, sentence by sentence: the boundary cases that
 * each one names. A test quotes the words that it tests.
 */
public final class ShelfEdgesTest extends Shelves {
  private static Document document;

  public static void main(String[] arguments) throws Exception {
    document = new Document(Path.of(arguments[0]));
    fourShelves();
    callsOfAnObject();
    description();
    document.nothingIsLeft("Description");
    shelves();
    document.nothingIsLeft("1. Shelves");
    Check.end("ShelfEdgesTest");
  }

  // What it is

  private static void fourShelves() {
    document.quote("What it is", "Four shelves with things in a row");
    Ownshelf x = new Ownshelf();
    for (int shelf = 0; shelf < 4; shelf++) {
      Check.due("add to " + shelf, x.add(shelf, 10 + shelf), 1);
    }
    Check.due("a row each", x.text(0) + x.text(1) + x.text(2) + x.text(3), "[10][11][12][13]");
    Check.noShelf("shelf -1", () -> x.size(-1));
    Check.noShelf("shelf 4", () -> x.size(4));
  }

  private static void callsOfAnObject() {
    document.quote("What it is", "An object is used for at most 512 calls after it has been made");
    Ownshelf told = new Ownshelf();
    told.fill(0, MOST, 0, 1);
    for (int call = 2; call < 512; call++) {
      told.text(0);
    }
    String row = "0, 1, 2, 3, 4, 5, 6, 7, 8, 9";
    Check.due("call 512, text", told.text(0), "[" + row + ", " + row + "]");
    Ownshelf asked = new Ownshelf();
    asked.fill(0, MOST, 0, 1);
    for (int call = 2; call < 512; call++) {
      asked.retainAll(0, 0);
    }
    // Each time 21 for the loop, and 1 to 10 twice for HAS.
    Check.due("call 512, count", asked.count(0, 0), 510 * (21 + 110));
  }

  // Description

  private static void description() {
    document.pass("Description", "Whole numbers.");
    noneIsLessByOne();
    refusedIsTold();
    whatWasDoneStays();
    exceptionsGoAhead();
    throwingChangesNothing();
    firstNamedIsThrown();
  }

  private static void noneIsLessByOne() {
    document.quote("Description", "NONE is -1.");
    Ownshelf x = with(-1);
    x.begin(0);
    Check.due("thing", x.thing(0, 0), -1);
    Check.due("step", x.step(0), -1);
    Check.due("greatest", x.greatest(1), -1);
  }

  private static void refusedIsTold() {
    document.quote("Description",
        "REFUSED is -9, where a method names it (it is told as something refuses;");
    Ownshelf x = withKept(1);
    x.make(1, FORTH, NEVER, MOST, true);
    x.begin(0);
    Check.due("away, step", x.away(0) + " " + x.step(0) + " " + x.step(0), "-9 1 -9");
    Check.due("add", x.add(1, 1), -9);
    Check.due("addAll", x.addAll(1, 0), -9);
    Check.due("addRow", x.addRow(1, 1, 1, 1), -9);
    Check.due("remove", x.remove(0, 1), -9);
    Check.due("clear", x.clear(0), -9);
    Check.due("removeAll", x.removeAll(0, 0), -9);
    Check.due("retainAll", x.retainAll(0, 1), -9);
    Check.due("removeRow", x.removeRow(0, 1, 1, 1), -9);
    Check.due("retainRow", x.retainRow(0, 2, 2, 2), -9);
    Check.due("removeNone", x.removeNone(0, true), -9);
    Check.due("fill does not name it", x.fill(1, 1, 1, 1), 0);
    Check.due("house 3", x.house(3), 12);
  }

  private static void whatWasDoneStays() {
    document.quote("Description", " what was done ahead of that stays;");
    Ownshelf x = with(FORTH, ANY, 2, true);
    Check.due("addRow", x.addRow(0, 1, 2, 3) + " " + row(x, 0) + ", " + counts(x, 0),
        "-9 1 2, 0 0 0 2 0");
    put(x, 1, 4, 5);
    x.make(2, FORTH, ANY, 1, true);
    Check.due("addAll", x.addAll(2, 1) + " " + row(x, 2) + ", " + counts(x, 2) + ", "
        + counts(x, 1), "-9 4, 0 0 0 1 0, 2 2 0 2 0");
    Check.due("fill", x.fill(2, 3, 0, 1) + " " + row(x, 2), "0 4");
    x.make(3, FORTH, ANY, MOST, false);
    put(x, 3, 8, 4);
    Check.due("removeAll", x.removeAll(3, 1) + " " + counts(x, 3) + ", " + counts(x, 1),
        "-9 2 2 0 2 0, 6 5 0 2 0");
  }

  private static void exceptionsGoAhead() {
    document.quote("Description", " exceptions go ahead of it).");
    Ownshelf x = withKept(1);
    x.make(1, FORTH, NEVER, 1, true);
    Check.badArgument("add", () -> x.add(1, 100));
    Check.badArgument("addRow, the last", () -> x.addRow(1, 1, 1, 100));
    Check.badArgument("addAll", () -> x.addAll(1, 1));
    Check.badArgument("remove", () -> x.remove(0, -2));
    Check.badArgument("removeRow, the last", () -> x.removeRow(0, 1, 1, -2));
    Check.badArgument("retainRow, the last", () -> x.retainRow(0, 2, 2, 100));
    Check.noShelf("removeNone", () -> x.removeNone(4, true));
    Check.noShelf("removeAll", () -> x.removeAll(0, 4));
    Check.noWalker("step", () -> x.step(1));
    Check.noWalker("away", () -> x.away(0));
    Check.due("house 3", x.house(3), 0);
  }

  private static void throwingChangesNothing() {
    document.quote("Description", "A method that throws an exception changes nothing.");
    Ownshelf x = with(1, 2);
    x.begin(0);
    x.step(0);
    long before = x.digest();
    Check.badArgument("addRow", () -> x.addRow(0, 1, 2, 100));
    Check.badArgument("removeRow", () -> x.removeRow(0, 1, 2, 100));
    Check.badArgument("containsRow", () -> x.containsRow(0, 1, 2, 100));
    Check.badArgument("make", () -> x.make(0, 1, 2, 21, false));
    Check.noShelf("addAll", () -> x.addAll(0, 4));
    Check.noShelf("areText", () -> x.areText(0, 4));
    Check.noWalker("rest", () -> x.rest(1));
    Check.due("digest", x.digest(), before);
    Check.due("the walker goes on", x.away(0) + " " + x.step(0), "1 2");
  }

  private static void firstNamedIsThrown() {
    document.quote("Description",
        "If several exceptions apply, the one that is named first is thrown.");
    Ownshelf x = with(1);
    Check.noShelf("shelf and walk", () -> x.make(4, 2, 0, 1, true));
    Check.noShelf("shelf and thing", () -> x.add(-1, 100));
    Check.noShelf("shelf and c", () -> x.containsRow(4, 0, 0, 100));
    Check.noShelf("no shelf, both the same", () -> x.addAll(4, 4));
    Check.noShelf("shelf and what", () -> x.count(-1, 5));
    Check.noShelf("shelf and no walker", () -> x.away(4));
  }

  // 1. Shelves

  private static void shelves() {
    placesOfARow();
    thingsAreAlike();
    kindsOfShelves();
    atFirst();
    neverRefuses();
    unlikeAddsNothing();
    limitRefuses();
    comesBehindAllOthers();
  }

  private static void placesOfARow() {
    document.quote("1. Shelves",
        "SHELVES 0 to 3, each with a ROW of THINGS, on places from 0 on, at most 20.");
    for (int k = 0; k < 4; k++) {
      int shelf = k;
      Ownshelf x = new Ownshelf();
      Check.noShelf("place 0 of none", () -> x.thing(shelf, 0));
      put(x, shelf, rising(80, MOST));
      Check.due("first and last", x.thing(shelf, 0) + " " + x.thing(shelf, 19), "80 99");
      Check.due("one more", x.add(shelf, 5), REFUSED);
      Check.noShelf("place -1", () -> x.thing(shelf, -1));
      Check.noShelf("place 20", () -> x.thing(shelf, MOST));
      Check.due("all others are without", x.house(0) + " " + x.house(1), "20 3");
    }
  }

  private static void thingsAreAlike() {
    document.quote("1. Shelves", "A THING is a number 0 to 99, or NOTHING (told as NONE);"
        + " two are ALIKE, if they are the same number, or both NOTHING.");
    for (int thing = -1; thing <= 99; thing++) {
      Ownshelf x = new Ownshelf();
      Check.due("add", x.add(0, thing), 1);
      Check.due("told", x.thing(0, 0), thing);
      for (int other = -1; other <= 99; other++) {
        Check.due(thing + " ALIKE " + other, x.contains(0, other), thing == other);
      }
    }
    Ownshelf x = new Ownshelf();
    Check.badArgument("no THING, too small", () -> x.add(0, -2));
    Check.badArgument("no THING, too large", () -> x.add(0, 100));
  }

  private static void kindsOfShelves() {
    document.quote("1. Shelves", "Each SHELF has a WALK: 0 FORTH (places rising),"
        + " 1 BACK (places falling); a RULE of adding: 0 ANY, 1 UNLIKE, 2 NEVER;"
        + " a LIMIT, 1 to 20; and it GIVES AWAY, or not.");
    Ownshelf x = with(0, 0, MOST, true, 1, 2, 3);
    Check.due("FORTH", x.text(0), "[1, 2, 3]");
    x.make(0, 1, 0, MOST, true);
    put(x, 0, 1, 2, 3);
    Check.due("BACK", x.text(0), "[3, 2, 1]");
    Check.due("ANY", x.add(0, 3), 1);
    x.make(0, 0, 1, MOST, true);
    Check.due("UNLIKE", x.add(0, 3) + " " + x.add(0, 3), "1 0");
    x.make(0, 0, 2, MOST, true);
    Check.due("NEVER", x.add(0, 3), REFUSED);
    x.make(0, 0, 0, 1, true);
    Check.due("LIMIT 1", x.fill(0, MOST, 0, 1), 1);
    Check.due("GIVES AWAY", x.clear(0), 1);
    x.make(0, 0, 0, MOST, false);
    Check.due("LIMIT 20", x.fill(0, MOST, 0, 1) + " " + x.fill(0, 1, 0, 1), "20 0");
    Check.due("or not", x.clear(0), REFUSED);
    int[][] wrong = {{-1, 0, 1}, {2, 0, 1}, {0, -1, 1}, {0, 3, 1}, {0, 0, 0}, {0, 0, 21}};
    for (int[] w : wrong) {
      Check.badArgument("make " + w[0] + w[1] + w[2], () -> x.make(0, w[0], w[1], w[2], true));
    }
  }

  private static void atFirst() {
    document.quote("1. Shelves",
        "At first each is FORTH, ANY, with LIMIT 20, and GIVES AWAY, without THINGS.");
    for (int shelf = 0; shelf < 4; shelf++) {
      Ownshelf x = new Ownshelf();
      Check.due("traits", traits(x, shelf), "0 0 0 20 1");
      Check.due("without THINGS", x.text(shelf), "[]");
      put(x, shelf, 7, 8, 7);
      Check.due("FORTH, ANY", x.text(shelf), "[7, 8, 7]");
      Check.due("LIMIT 20", x.fill(shelf, MOST, 0, 1), 17);
      Check.due("GIVES AWAY", x.clear(shelf), MOST);
    }
  }

  private static void neverRefuses() {
    document.quote("1. Shelves", "To ADD a THING: with NEVER that refuses.");
    for (int limit = 1; limit <= MOST; limit += 19) {
      Ownshelf x = with(FORTH, NEVER, limit, true);
      Check.due("add", x.add(0, -1) + " " + x.add(0, 0) + " " + x.add(0, 99), "-9 -9 -9");
      Check.due("addRow", x.addRow(0, 1, 1, 1), REFUSED);
      Check.due("counts", counts(x, 0) + row(x, 0), "0 0 0 0 0");
    }
  }

  private static void unlikeAddsNothing() {
    document.quote("1. Shelves", "With UNLIKE nothing is added, if one ALIKE is there already"
        + " (that is looked at without a WALKER); that does not refuse.");
    Ownshelf x = with(FORTH, UNLIKE, MOST, true);
    Check.due("none there", x.add(0, 50), 1);
    Check.due("the only one", x.add(0, 50), 0);
    put(x, 0, rising(20, 18));
    Check.due("NOTHING", x.add(0, -1) + " " + x.add(0, -1), "1 0");
    x.begin(0);
    Check.due("full, at the first place", x.add(0, 50), 0);
    Check.due("full, at the last place", x.add(0, -1), 0);
    Check.due("without a WALKER", counts(x, 0), "0 0 0 20 0");
    Check.due("does not refuse", x.house(3), 0);
    Check.due("leaves who is HELD", x.isHeld(0), true);
    Ownshelf one = with(BACK, UNLIKE, 1, true, 3);
    Check.due("LIMIT 1", one.add(0, 3) + " " + one.addRow(0, 3, 3, 3), "0 0");
    Check.due("LIMIT 1, none refused", one.house(3), 0);
  }

  private static void limitRefuses() {
    document.quote("1. Shelves", "Otherwise, with as many THINGS as LIMIT, it refuses.");
    for (int limit = 1; limit <= MOST; limit++) {
      Ownshelf x = with(FORTH, limit % 2, limit, true);
      for (int k = 0; k < limit; k++) {
        Check.due("add below " + limit, x.add(0, k), 1);
      }
      Check.due("add at " + limit, x.add(0, 50), REFUSED);
      Check.due("not added", x.ofShelf(0, 0) + " " + x.count(0, 3), limit + " " + limit);
      x.remove(0, 0);
      Check.due("one less", x.add(0, 51) + " " + x.add(0, 52), "1 -9");
      Check.due("how often refused", x.house(3), 2);
    }
  }

  private static void comesBehindAllOthers() {
    document.quote("1. Shelves",
        "Otherwise the THING comes behind all others, ADDS is 1 more.");
    for (int walk = FORTH; walk <= BACK; walk++) {
      Ownshelf x = with(walk, ANY, MOST, true);
      for (int k = 0; k < MOST; k++) {
        x.add(0, 30 + k);
        Check.due("place and ADDS", x.thing(0, k) + " " + x.count(0, 3), 30 + k + " " + (k + 1));
      }
      x.remove(0, 30);
      x.add(0, 7);
      Check.due("behind those that moved up", x.thing(0, 0) + " " + x.thing(0, 19), "31 7");
      x.remove(0, 7);
      x.add(0, 8);
      Check.due("where the last one went", x.thing(0, 18) + " " + x.thing(0, 19), "49 8");
    }
  }
}
