import java.nio.file.Path;
import java.util.function.Function;

/**
 * What the document says of loops, sentence by sentence: the boundary cases that each one names. A
 * test quotes the words that it tests.
 */
public final class LoopEdgesTest extends Shelves {
  private static Document document;

  public static void main(String[] arguments) throws Exception {
    document = new Document(Path.of(arguments[0]));
    loops();
    loopsWithTwo();
    loopsOfOne();
    toldRows();
    document.nothingIsLeft("3. Loops");
    Check.end("LoopEdgesTest");
  }

  /** What a call answers, and the ASKS, STEPS and AWAYS of shelves 0 and 1. */
  private static String told(Ownshelf x, Function<Ownshelf, Object> call) {
    return call.apply(x) + ": " + walked(x, 0) + ", " + walked(x, 1);
  }

  private static void walks(String name, Ownshelf x, Function<Ownshelf, Object> call, String due) {
    Check.due(name, told(x, call), due);
  }

  private static void loops() {
    has();
    hasNot();
    removeTakesTheFirst();
    removeRefused();
  }

  private static void has() {
    document.quote("3. Loops", "HAS a THING: ASK; as long as there is a next one: STEP;"
        + " if that is ALIKE, it HAS it, and the loop is over; otherwise ASK again.");
    walks("the first", full(), x -> x.contains(0, 30), "true: 1 1 0, 0 0 0");
    walks("the second", full(), x -> x.contains(0, 31), "true: 2 2 0, 0 0 0");
    walks("the last of 20", full(), x -> x.contains(0, 49), "true: 20 20 0, 0 0 0");
    walks("BACK, the first", fullBack(), x -> x.contains(0, 49), "true: 1 1 0, 0 0 0");
    walks("BACK, the last", fullBack(), x -> x.contains(0, 30), "true: 20 20 0, 0 0 0");
    walks("two ALIKE", with(4, 5, 5), x -> x.contains(0, 5), "true: 2 2 0, 0 0 0");
    walks("NOTHING", with(0, -1), x -> x.contains(0, -1), "true: 2 2 0, 0 0 0");
  }

  private static void hasNot() {
    document.quote("3. Loops", "It has it not, if there is no next one.");
    walks("empty", with(), x -> x.contains(0, 0), "false: 1 0 0, 0 0 0");
    walks("empty, NOTHING", withBack(), x -> x.contains(0, -1), "false: 1 0 0, 0 0 0");
    walks("one", with(-1), x -> x.contains(0, 0), "false: 2 1 0, 0 0 0");
    walks("none of 20", full(), x -> x.contains(0, 50), "false: 21 20 0, 0 0 0");
    walks("BACK, none of 20", fullBack(), x -> x.contains(0, 29), "false: 21 20 0, 0 0 0");
  }

  private static void removeTakesTheFirst() {
    document.quote("3. Loops",
        "REMOVE a THING: likewise; the first one ALIKE goes by AWAY.");
    walks("the first", full(), x -> x.remove(0, 30), "1: 1 1 1, 0 0 0");
    walks("the last of 20", full(), x -> x.remove(0, 49), "1: 20 20 1, 0 0 0");
    walks("none of 20", full(), x -> x.remove(0, 50), "0: 21 20 0, 0 0 0");
    walks("BACK, the last", fullBack(), x -> x.remove(0, 30), "1: 20 20 1, 0 0 0");
    walks("empty", with(), x -> x.remove(0, -1), "0: 1 0 0, 0 0 0");
    walks("the only one", with(7), x -> x.remove(0, 7) + row(x, 0), "1: 1 1 1, 0 0 0");
    walks("of two", with(7, 1, 7), x -> x.remove(0, 7) + " " + row(x, 0), "1 1 7: 1 1 1, 0 0 0");
    walks("BACK, of two", withBack(7, 1, 7), x -> x.remove(0, 7) + " " + row(x, 0),
        "1 7 1: 1 1 1, 0 0 0");
  }

  private static void removeRefused() {
    Check.part("3. Loops: REMOVE, and AWAY refuses");
    walks("the last", withKept(1, 2), x -> x.remove(0, 2) + " " + row(x, 0),
        "-9 1 2: 2 2 0, 0 0 0");
    walks("none ALIKE", withKept(1, 2), x -> x.remove(0, 3), "0: 3 2 0, 0 0 0");
    walks("empty", withKept(), x -> x.remove(0, 3), "0: 1 0 0, 0 0 0");
  }

  private static void loopsWithTwo() {
    hasAll();
    addAll();
    addAllRefused();
    removeAll();
    retainAll();
    bothAreOver();
  }

  private static void hasAll() {
    document.quote("3. Loops", "HAS ALL of another SHELF: that one is walked through: ASK, and as"
        + " long as there is a next one STEP, and then this one is asked whether it HAS that THING;"
        + " with the first one that it has not the loop is over; otherwise ASK again.");
    Function<Ownshelf, Object> call = x -> x.containsAll(0, 1);
    walks("of an empty one", full(), call, "true: 0 0 0, 1 0 0");
    walks("both empty", with(), call, "true: 0 0 0, 1 0 0");
    walks("empty, of one", and(with(), 5), call, "false: 1 0 0, 1 1 0");
    walks("not the first of 20", and(with(1), rising(30, MOST)), call, "false: 2 1 0, 1 1 0");
    walks("not the last of 20", and(with(rising(30, 19)), rising(30, MOST)), call,
        "false: 210 209 0, 20 20 0");
    walks("all of 20", and(full(), rising(30, MOST)), call, "true: 210 210 0, 21 20 0");
    walks("all of 20, BACK", and(fullBack(), rising(30, MOST)), call,
        "true: 210 210 0, 21 20 0");
    walks("20 ALIKE ones", and(with(3), 3, 3, 3, 3), call, "true: 4 4 0, 5 4 0");
    walks("NOTHING", and(with(0), -1), call, "false: 2 1 0, 1 1 0");
    walks("itself", full(), x -> x.containsAll(0, 0), "true: 231 230 0, 0 0 0");
    walks("itself, ALIKE ones", with(4, 4, 5), x -> x.containsAll(0, 0), "true: 9 8 0, 0 0 0");
    walks("itself, empty", with(), x -> x.containsAll(0, 0), "true: 1 0 0, 0 0 0");
  }

  private static void addAll() {
    document.quote("3. Loops", "ADD ALL of another SHELF: likewise each THING of the other one is"
        + " ADDED to this one;");
    Function<Ownshelf, Object> call = x -> x.addAll(0, 1) + " " + row(x, 0);
    walks("of an empty one", with(5), call, "0 5: 0 0 0, 1 0 0");
    walks("of an empty one, full", with(FORTH, ANY, 1, true, 5), call, "0 5: 0 0 0, 1 0 0");
    walks("of an empty one, NEVER", with(FORTH, NEVER, 1, true), call, "0 : 0 0 0, 1 0 0");
    walks("as many as fit", and(with(FORTH, ANY, 4, true, 5), 6, 7, 8), call,
        "1 5 6 7 8: 0 0 0, 4 3 0");
    walks("20", and(with(), rising(30, MOST)), x -> x.addAll(0, 1) + " " + x.thing(0, 19),
        "1 49: 0 0 0, 21 20 0");
    walks("ALIKE ones, full", and(with(FORTH, UNLIKE, 2, true, 5, 6), 6, 5, 6), call,
        "0 5 6: 0 0 0, 4 3 0");
    Ownshelf back = with();
    back.make(1, BACK, ANY, MOST, true);
    walks("BACK", and(back, 1, 2, 3), call, "1 3 2 1: 0 0 0, 4 3 0");
  }

  private static void addAllRefused() {
    document.quote("3. Loops", " the loop is over as that refuses.");
    Function<Ownshelf, Object> call = x -> x.addAll(0, 1) + " " + row(x, 0);
    walks("NEVER", and(with(FORTH, NEVER, MOST, true), 1, 2), call, "-9 : 0 0 0, 1 1 0");
    walks("full", and(with(FORTH, ANY, 1, true, 5), 1, 2), call, "-9 5: 0 0 0, 1 1 0");
    walks("one too many", and(with(FORTH, ANY, 3, true, 5), 6, 7, 8), call,
        "-9 5 6 7: 0 0 0, 3 3 0");
    walks("not the last", and(with(FORTH, ANY, 2, true, 5), 6, 7, 8), call,
        "-9 5 6: 0 0 0, 2 2 0");
    walks("behind ALIKE ones", and(with(FORTH, UNLIKE, 1, true, 5), 5, 5, 6, 5), call,
        "-9 5: 0 0 0, 3 3 0");
    walks("20, and one is there", and(with(5), rising(30, MOST)),
        x -> x.addAll(0, 1) + " " + x.thing(0, 19), "-9 48: 0 0 0, 20 20 0");
  }

  private static void removeAll() {
    document.quote("3. Loops", "REMOVE ALL of another SHELF (it may be the same one): this one is"
        + " walked through: ASK, and as long as there is a next one STEP, and then the other one"
        + " is asked whether it HAS that THING; if so, it goes from this one by AWAY; then ASK"
        + " again.");
    Function<Ownshelf, Object> call = x -> x.removeAll(0, 1) + " " + row(x, 0);
    walks("empty", and(with(), 1, 2), call, "0 : 1 0 0, 0 0 0");
    walks("of an empty one", with(1, 2, 3), call, "0 1 2 3: 4 3 0, 3 0 0");
    walks("all", and(with(1, 2, 3), 3, 2, 1), call, "1 : 4 3 3, 6 6 0");
    walks("the first", and(with(1, 2, 3), 1), call, "1 2 3: 4 3 1, 5 3 0");
    walks("the last", and(with(1, 2, 3), 3), call, "1 1 2: 4 3 1, 5 3 0");
    walks("BACK, two side by side", and(withBack(1, 2, 2, 3), 2), call, "1 1 3: 5 4 2, 6 4 0");
    walks("two side by side", and(with(1, 2, 2, 3), 2), call, "1 1 3: 5 4 2, 6 4 0");
    walks("all of 20", and(full(), rising(30, MOST)), call, "1 : 21 20 20, 210 210 0");
    walks("none of 20", and(full(), 1), x -> x.removeAll(0, 1), "0: 21 20 0, 40 20 0");
    Function<Ownshelf, Object> itself = x -> x.removeAll(0, 0) + " " + row(x, 0);
    walks("the same", full(), itself, "1 : 41 40 20, 0 0 0");
    walks("the same, BACK", fullBack(), itself, "1 : 41 40 20, 0 0 0");
    walks("the same, ALIKE ones", with(4, 4), itself, "1 : 5 4 2, 0 0 0");
    walks("the same, empty", with(), itself, "0 : 1 0 0, 0 0 0");
  }

  private static void retainAll() {
    document.quote("3. Loops",
        "RETAIN ALL: likewise, but it goes if the other one has it not.");
    Function<Ownshelf, Object> call = x -> x.retainAll(0, 1) + " " + row(x, 0);
    walks("empty", and(with(), 1, 2), call, "0 : 1 0 0, 0 0 0");
    walks("of an empty one", with(1, 2, 3), call, "1 : 4 3 3, 3 0 0");
    walks("all stay", and(with(1, 2, 3), 3, 2, 1), call, "0 1 2 3: 4 3 0, 6 6 0");
    walks("the first stays", and(with(1, 2, 3), 1), call, "1 1: 4 3 2, 5 3 0");
    walks("the last stays", and(with(1, 2, 3), 3), call, "1 3: 4 3 2, 5 3 0");
    walks("BACK, the middle", and(withBack(1, 2, 3), 2), call, "1 2: 4 3 2, 5 3 0");
    walks("none of 20", and(full(), 1), call, "1 : 21 20 20, 40 20 0");
    Function<Ownshelf, Object> itself = x -> x.retainAll(0, 0) + " " + x.ofShelf(0, 0);
    walks("the same", full(), itself, "0 20: 231 230 0, 0 0 0");
    walks("the same, empty", with(), itself, "0 0: 1 0 0, 0 0 0");
  }

  private static void bothAreOver() {
    document.quote("3. Loops", "Both are over as AWAY refuses.");
    Function<Ownshelf, Object> remove = x -> x.removeAll(0, 1) + " " + row(x, 0);
    Function<Ownshelf, Object> retain = x -> x.retainAll(0, 1) + " " + row(x, 0);
    walks("the first", and(withKept(1, 2, 3), 1), remove, "-9 1 2 3: 1 1 0, 1 1 0");
    walks("the second", and(withKept(1, 2, 3), 3, 2), remove, "-9 1 2 3: 2 2 0, 5 4 0");
    walks("none to go", and(withKept(1, 2, 3), 4), remove, "0 1 2 3: 4 3 0, 6 3 0");
    walks("empty", and(withKept(), 4), remove, "0 : 1 0 0, 0 0 0");
    walks("RETAIN, the first", and(withKept(1, 2, 3), 2), retain, "-9 1 2 3: 1 1 0, 2 1 0");
    walks("RETAIN, the last", and(withKept(1, 2, 3), 2, 1), retain, "-9 1 2 3: 3 3 0, 6 5 0");
    walks("RETAIN, none to go", and(withKept(1), 1), retain, "0 1: 2 1 0, 1 1 0");
    walks("RETAIN, empty", withKept(), retain, "0 : 1 0 0, 0 0 0");
    walks("the same", withKept(1, 2), x -> x.removeAll(0, 0), "-9: 2 2 0, 0 0 0");
    walks("RETAIN, the same", withKept(1), x -> x.retainAll(0, 0), "0: 3 2 0, 0 0 0");
  }

  private static void loopsOfOne() {
    clear();
    empty();
    text();
    each();
    document.pass("3. Loops", "The constructor and the methods follow, a promise each: the"
        + " signature, then what it does.");
  }

  private static void clear() {
    document.quote("3. Loops", "CLEAR: ASK, and as long as there is a next one STEP, AWAY, ASK"
        + " again; over as AWAY refuses.");
    Function<Ownshelf, Object> call = x -> x.clear(0) + " " + row(x, 0);
    walks("empty", with(), call, "0 : 1 0 0, 0 0 0");
    walks("one", with(-1), call, "1 : 2 1 1, 0 0 0");
    walks("20", full(), call, "20 : 21 20 20, 0 0 0");
    walks("BACK, 20", fullBack(), call, "20 : 21 20 20, 0 0 0");
    walks("refused", withKept(1, 2), call, "-9 1 2: 1 1 0, 0 0 0");
    walks("none to refuse", withKept(), call, "0 : 1 0 0, 0 0 0");
  }

  private static void empty() {
    document.quote("3. Loops", "EMPTY: one question how many THINGS there are (SIZES).");
    Ownshelf x = with(1);
    Check.due("one", x.isEmpty(0) + " " + counts(x, 0), "false 0 0 0 1 1");
    x.clear(0);
    Check.due("none left", x.isEmpty(0) + " " + counts(x, 0), "true 2 1 1 1 2");
    Ownshelf full = full();
    Check.due("20", full.isEmpty(0) + " " + counts(full, 0), "false 0 0 0 20 1");
  }

  private static void text() {
    document.quote("3. Loops", "TEXT: ASK, and as long as there is a next one STEP and ASK again:"
        + " \"[\", the THINGS in their WALK with \", \" between (NOTHING is \"null\"), \"]\".");
    walks("empty", with(), x -> x.text(0), "[]: 1 0 0, 0 0 0");
    walks("one", with(0), x -> x.text(0), "[0]: 2 1 0, 0 0 0");
    walks("NOTHING", with(-1), x -> x.text(0), "[null]: 2 1 0, 0 0 0");
    walks("BACK", withBack(9, 10, -1, 99), x -> x.text(0), "[99, null, 10, 9]: 5 4 0, 0 0 0");
    for (int thing = 0; thing <= 99; thing++) {
      Check.due("signs", with(thing).text(0), "[" + thing + "]");
    }
    Ownshelf longest = with();
    StringBuilder text = new StringBuilder("[null");
    for (int k = 0; k < MOST; k++) {
      longest.add(0, -1);
      text.append(k == 0 ? "" : ", null");
    }
    walks("20", longest, x -> x.text(0), text + "]: 21 20 0, 0 0 0");
  }

  private static void each() {
    document.quote("3. Loops",
        "EACH: the same loop, in which each THING is told to somebody.");
    walks("empty", with(), x -> x.sum(0), "0: 1 0 0, 0 0 0");
    walks("one", with(5), x -> x.greatest(0), "5: 2 1 0, 0 0 0");
    walks("20", full(), x -> x.sum(0), "790: 21 20 0, 0 0 0");
    walks("20, greatest", fullBack(), x -> x.greatest(0), "49: 21 20 0, 0 0 0");
    walks("in their WALK", with(0, 1), x -> x.order(0), "6792: 3 2 0, 0 0 0");
    walks("BACK", withBack(0, 1), x -> x.order(0), "6822: 3 2 0, 0 0 0");
  }

  // Told rows

  private static void toldRows() {
    document.quote("3. Loops", "With a told row of three THINGS in the place of another SHELF all"
        + " is the same, but nothing is counted for that row.");
    Ownshelf[] made = {
      with(), with(1), with(1, -1, 2, 1), withBack(3, 2, 1, 0), withKept(2, 1), withKept(),
      with(FORTH, NEVER, MOST, true), with(FORTH, UNLIKE, 3, true, 1, 2), full(),
      with(FORTH, ANY, 3, true, 1), with(BACK, UNLIKE, 2, false, -1, 7)
    };
    int[][] rows = {{1, 2, 3}, {-1, -1, -1}, {2, 2, 1}, {99, 0, 1}, {30, 49, 50}};
    for (Ownshelf like : made) {
      for (int[] r : rows) {
        String name = threeOf(r) + " for " + row(like, 0);
        sameAsShelf(name + ", addRow", like, r, x -> x.addRow(0, r[0], r[1], r[2]),
            x -> x.addAll(0, 1));
        sameAsShelf(name + ", removeRow", like, r, x -> x.removeRow(0, r[0], r[1], r[2]),
            x -> x.removeAll(0, 1));
        sameAsShelf(name + ", retainRow", like, r, x -> x.retainRow(0, r[0], r[1], r[2]),
            x -> x.retainAll(0, 1));
        sameAsShelf(name + ", containsRow", like, r, x -> x.containsRow(0, r[0], r[1], r[2]),
            x -> x.containsAll(0, 1));
      }
    }
  }

  private static String threeOf(int[] row) {
    return "row of " + row[0] + " " + row[1] + " " + row[2];
  }

  private static Ownshelf again(Ownshelf like) {
    Ownshelf x = with(like.ofShelf(0, 1), like.ofShelf(0, 2), like.ofShelf(0, 3),
        like.ofShelf(0, 4) == 1);
    for (int place = 0; place < like.ofShelf(0, 0); place++) {
      x.add(0, like.thing(0, place));
    }
    x.begin(0);
    return x;
  }

  private static void sameAsShelf(String name, Ownshelf like, int[] row,
      Function<Ownshelf, Object> withRow, Function<Ownshelf, Object> withShelf) {
    Ownshelf x = again(like);
    Ownshelf y = and(again(like), row);
    Check.due(name, withRow.apply(x) + after(x), withShelf.apply(y) + after(y));
    for (int shelf = 1; shelf < 4; shelf++) {
      Check.due(name + " counts nothing", counts(x, shelf), "0 0 0 0 0");
    }
  }

  private static String after(Ownshelf x) {
    return ", " + row(x, 0) + ", " + counts(x, 0) + ", " + x.isHeld(0) + x.house(3);
  }
}
