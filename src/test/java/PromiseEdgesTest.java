import java.math.BigInteger;
import java.nio.file.Path;

/**
 * Promises 1 to 37, sentence by sentence: the boundary cases that each one names. A test quotes the
 * words that it tests; the lines that begin with Throws are ThrowsTest's.
 */
public final class PromiseEdgesTest extends Shelves {
  private static Document document;

  public static void main(String[] arguments) throws Exception {
    document = new Document(Path.of(arguments[0]));
    makingAndAdding();
    lettingGo();
    rows();
    questions();
    eachIsTold();
    walkers();
    askedWithoutWalking();
    all();
    for (String section : document.headings()) {
      if (section.startsWith("Promise ")) {
        leaveThrows(section);
        document.nothingIsLeft(section);
      }
    }
    Check.end("PromiseEdgesTest");
  }

  private static void leaveThrows(String section) {
    for (String line : document.lines(section)) {
      if (line.startsWith("Throws ")) {
        document.pass(section, line);
      }
    }
  }

  /** The quoted words of a promise. */
  private static void promise(int number, String... words) {
    document.quote("Promise " + number, words);
  }

  // Promises 1 to 4, 7 and 10

  private static void makingAndAdding() {
    newObject();
    make();
    add();
    fill();
    fillRefused();
    addAll();
    addRow();
  }

  private static void newObject() {
    promise(1, "Creates four empty shelves.");
    Ownshelf x = new Ownshelf();
    Check.due("house", house(x), "0 4 0 0 0");
    Check.due("texts", x.text(0) + x.text(1) + x.text(2) + x.text(3), "[][][][]");
    Check.noShelf("no fifth one", () -> x.text(4));
    Check.noShelf("none ahead of the first", () -> x.text(-1));
    x.add(0, 1);
    x.knock();
    Check.due("another object's", house(new Ownshelf()), "0 4 0 0 0");
  }

  private static void make() {
    promise(2, "A SHELF is made anew, without THINGS, all its COUNTS 0.",
        "Returns how many THINGS it had.");
    Ownshelf x = new Ownshelf();
    Check.due("had none", x.make(3, FORTH, ANY, MOST, true), 0);
    x.add(3, -1);
    Check.due("had one", x.make(3, FORTH, ANY, MOST, true), 1);
    x.fill(3, MOST, 0, 1);
    x.contains(3, 11);
    x.size(3);
    x.remove(3, 0);
    x.add(3, 5);
    Check.due("had 20", x.make(3, BACK, NEVER, 1, false), MOST);
    Check.due("traits", traits(x, 3), "0 1 2 1 0");
    Check.due("without THINGS", x.text(3), "[]");
    x.make(3, FORTH, UNLIKE, MOST, true);
    Check.due("COUNTS", counts(x, 3), "0 0 0 0 0");
    Check.due("ALIKE what it had", x.add(3, 5), 1);
    x.make(3, FORTH, ANY, MOST, true);
    Check.due("others", traits(x, 2) + ", " + house(x), "0 0 0 20 1, 0 4 0 0 0");
  }

  private static void add() {
    promise(3, "ADDS a THING.",
        "Returns 1 if it was added, 0 if one ALIKE was there (UNLIKE), REFUSED if that refuses.");
    Ownshelf x = with(FORTH, UNLIKE, 2, true);
    Check.due("added", x.add(0, 99) + " " + x.add(0, -1), "1 1");
    Check.due("ALIKE, full", x.add(0, 99) + " " + x.add(0, -1), "0 0");
    Check.due("refused", x.add(0, 0) + " " + x.add(0, 98), "-9 -9");
    Check.due("row, ADDS, house 3", row(x, 0) + ", " + counts(x, 0) + ", " + x.house(3),
        "99 -1, 0 0 0 2 0, 2");
    Check.due("ALIKE and ANY", with(7).add(0, 7), 1);
    Check.due("NEVER", with(FORTH, NEVER, MOST, true).add(0, 7), REFUSED);
  }

  private static void fill() {
    promise(4, "ADDS THINGS one by one, for k of 0 to many - 1 the number (from + k * by)"
        + " modulo 10,", "Returns how many were added.");
    Ownshelf x = with();
    Check.due("none", x.fill(0, 0, 99, 99) + row(x, 0) + counts(x, 0), "00 0 0 0 0");
    Check.due("one", x.fill(0, 1, 99, 99) + " " + row(x, 0), "1 9");
    x.make(0, FORTH, ANY, MOST, true);
    Check.due("most of all", x.fill(0, MOST, 99, 99), MOST);
    Check.due("row", row(x, 0), "9 8 7 6 5 4 3 2 1 0 9 8 7 6 5 4 3 2 1 0");
    Check.due("counts", counts(x, 0), "0 0 0 20 0");
    x.make(0, FORTH, ANY, MOST, true);
    Check.due("from 9", x.fill(0, 3, 9, 1) + " " + row(x, 0), "3 9 0 1");
    x.make(0, FORTH, ANY, MOST, true);
    Check.due("from 10 by 10", x.fill(0, 2, 10, 10) + " " + row(x, 0), "2 0 0");
    x.make(0, FORTH, ANY, MOST, true);
    Check.due("by 0", x.fill(0, 2, 0, 0) + " " + row(x, 0), "2 0 0");
    x.make(0, FORTH, UNLIKE, MOST, true);
    Check.due("ALIKE ones", x.fill(0, MOST, 0, 1) + " " + row(x, 0), "10 0 1 2 3 4 5 6 7 8 9");
    Check.due("ALIKE ones alone", x.fill(0, MOST, 5, 5) + " " + x.count(0, 3), "0 10");
  }

  private static void fillRefused() {
    promise(4, " till that refuses (that one is not counted in house() 3).");
    Ownshelf x = with(FORTH, ANY, 5, true, 8, 8);
    Check.due("as many as fit", x.fill(0, 4, 0, 1) + " " + row(x, 0), "3 8 8 0 1 2");
    Check.due("full", x.fill(0, 1, 0, 1) + " " + x.fill(0, MOST, 0, 1), "0 0");
    x.make(0, FORTH, NEVER, MOST, true);
    Check.due("NEVER", x.fill(0, MOST, 0, 1) + row(x, 0), "0");
    x.make(0, FORTH, UNLIKE, 2, true);
    Check.due("UNLIKE", x.fill(0, MOST, 3, 1) + " " + row(x, 0), "2 3 4");
    Check.due("UNLIKE, full", x.fill(0, 1, 4, 0) + " " + x.fill(0, 1, 5, 0), "0 0");
    Check.due("house 3", x.house(3), 0);
    Check.due("ADDS", x.count(0, 3), 2);
  }

  private static void addAll() {
    promise(7, "ADDS ALL of another SHELF.",
        "Returns 1 if some was added, 0 if none; REFUSED if that refuses.");
    Ownshelf x = and(with(FORTH, UNLIKE, 3, true, 1), 1, 2, 1);
    Check.due("of an empty one", x.addAll(0, 2), 0);
    Check.due("some, ahead of ALIKE ones", x.addAll(0, 1) + " " + row(x, 0), "1 1 2");
    Check.due("ALIKE ones", x.addAll(0, 1), 0);
    put(x, 2, 1, 3);
    Check.due("the last alone", x.addAll(0, 2) + " " + row(x, 0), "1 1 2 3");
    put(x, 3, 3, 4, 2);
    Check.due("refused", x.addAll(0, 3) + " " + row(x, 0), "-9 1 2 3");
    x.make(0, FORTH, UNLIKE, 2, true);
    Check.due("refused behind some", x.addAll(0, 3) + " " + row(x, 0), "-9 3 4");
    Check.due("house 3", x.house(3), 2);
    Check.badArgument("the same", () -> x.addAll(0, 0));
    Check.badArgument("the same, empty", () -> new Ownshelf().addAll(3, 3));
  }

  private static void addRow() {
    promise(10, "ADDS ALL of a told row.",
        "Returns 1 if some was added, 0 if none; REFUSED if that refuses.");
    Ownshelf x = with(FORTH, UNLIKE, 3, true);
    Check.due("the first alone", x.addRow(0, -1, -1, -1) + " " + row(x, 0), "1 -1");
    Check.due("none", x.addRow(0, -1, -1, -1), 0);
    Check.due("the last alone", x.addRow(0, -1, -1, 99) + " " + row(x, 0), "1 -1 99");
    Check.due("refused, the last", x.addRow(0, 99, 0, 1) + " " + row(x, 0), "-9 -1 99 0");
    Check.due("refused, the first", x.addRow(0, 1, 0, 99), REFUSED);
    Check.due("all there, full", x.addRow(0, 0, -1, 99), 0);
    Check.due("house 3", x.house(3), 2);
    Ownshelf any = with(FORTH, ANY, 4, true, 5);
    Check.due("as many as fit", any.addRow(0, 5, 5, 5) + " " + row(any, 0), "1 5 5 5 5");
    Check.due("full", any.addRow(0, 5, 5, 5) + " " + counts(any, 0), "-9 0 0 0 4 0");
  }

  // Promises 5, 6, 8, 9 and 13

  private static void lettingGo() {
    remove();
    clear();
    removeAll();
    retainAll();
    removeNone();
  }

  private static void remove() {
    promise(5, "REMOVES a THING.",
        "Returns 1 if one ALIKE went, 0 if there was none, REFUSED if AWAY refuses.");
    Ownshelf x = with(0, -1, 99);
    Check.due("none", x.remove(0, 1), 0);
    Check.due("NOTHING", x.remove(0, -1) + " " + row(x, 0), "1 0 99");
    Check.due("the last", x.remove(0, 99) + " " + row(x, 0), "1 0");
    Check.due("the only one", x.remove(0, 0) + row(x, 0), "1");
    Check.due("empty", x.remove(0, 0), 0);
    Ownshelf kept = withKept(0, -1);
    Check.due("refused", kept.remove(0, -1) + " " + row(kept, 0), "-9 0 -1");
    Check.due("none to refuse", kept.remove(0, 1), 0);
    Check.due("house 3", kept.house(3), 1);
  }

  private static void clear() {
    promise(6, "CLEARS.", "Returns how many THINGS went; REFUSED if AWAY refuses.");
    Check.due("none", with().clear(0), 0);
    Check.due("one", with(-1).clear(0), 1);
    Ownshelf x = full();
    Check.due("20, and again", x.clear(0) + " " + x.clear(0), "20 0");
    Check.due("empty", x.text(0), "[]");
    Ownshelf kept = withKept(1, 2);
    Check.due("refused", kept.clear(0) + " " + row(kept, 0) + ", " + kept.house(3), "-9 1 2, 1");
    Check.due("none to refuse", withKept().clear(0), 0);
  }

  private static void removeAll() {
    promise(8, "REMOVES ALL of another SHELF.", "- `other`: the other one, or the same",
        "Returns 1 if some went, 0 if none; REFUSED if AWAY refuses.");
    Check.due("the first alone", and(with(1, 2, 3), 1).removeAll(0, 1), 1);
    Check.due("the last alone", and(with(1, 2, 3), 3).removeAll(0, 1), 1);
    Check.due("none", and(with(1, 2, 3), 4).removeAll(0, 1), 0);
    Check.due("of an empty one", with(1).removeAll(0, 1), 0);
    Check.due("empty", and(with(), 1).removeAll(0, 1), 0);
    Check.due("the same", with(1, 1, 2).removeAll(0, 0), 1);
    Check.due("the same, empty", with().removeAll(0, 0), 0);
    Ownshelf kept = and(withKept(1, 2), 2);
    Check.due("refused", kept.removeAll(0, 1) + " " + kept.removeAll(0, 0), "-9 -9");
    Check.due("none to refuse", kept.removeAll(0, 2), 0);
    Check.due("house 3", kept.house(3), 2);
    Ownshelf other = and(with(1, 2), 2);
    other.make(2, FORTH, ANY, MOST, false);
    other.add(2, 1);
    Check.due("of one that keeps", other.removeAll(0, 2) + " " + row(other, 2), "1 1");
  }

  private static void retainAll() {
    promise(9, "RETAINS ALL of another SHELF.", "- `other`: the other one, or the same",
        "Returns 1 if some went, 0 if none; REFUSED if AWAY refuses.");
    Check.due("the first alone", and(with(1, 2, 3), 2, 3).retainAll(0, 1), 1);
    Check.due("the last alone", and(with(1, 2, 3), 1, 2).retainAll(0, 1), 1);
    Check.due("none", and(with(1, 2, 1), 2, 1).retainAll(0, 1), 0);
    Check.due("of an empty one", with(1).retainAll(0, 1), 1);
    Check.due("empty", and(with(), 1).retainAll(0, 1), 0);
    Check.due("the same", with(1, 1, 2).retainAll(0, 0), 0);
    Check.due("the same, empty", with().retainAll(0, 0), 0);
    Ownshelf kept = and(withKept(1, 2), 2);
    Check.due("refused", kept.retainAll(0, 1) + " " + kept.retainAll(0, 2), "-9 -9");
    Check.due("none to refuse", kept.retainAll(0, 0), 0);
    Check.due("house 3", kept.house(3), 2);
  }

  private static void removeNone() {
    promise(13, "Asks to REMOVE ALL (or to RETAIN ALL) of no collection at all: that is refused at"
        + " once, without a WALKER.", "Returns REFUSED, always.");
    Ownshelf x = with(1, 2);
    x.make(1, BACK, NEVER, 1, false);
    x.fill(2, MOST, 0, 1);
    x.begin(0);
    x.step(0);
    for (int shelf = 0; shelf < 4; shelf++) {
      String before = counts(x, shelf) + ", " + row(x, shelf);
      Check.due("remove", x.removeNone(shelf, false), REFUSED);
      Check.due("retain", x.removeNone(shelf, true), REFUSED);
      Check.due("without a WALKER", counts(x, shelf) + ", " + row(x, shelf), before);
    }
    Check.due("house 3", x.house(3), 8);
    Check.due("who is HELD", x.away(0) + " " + x.step(0), "1 2");
  }

  // Promises 11, 12 and 16

  private static void rows() {
    removeRow();
    retainRow();
    containsRow();
  }

  private static void removeRow() {
    promise(11, "REMOVES ALL of a told row.",
        "Returns 1 if some went, 0 if none; REFUSED if AWAY refuses.");
    Ownshelf x = with(1, -1, 2, 1);
    Check.due("none", x.removeRow(0, 3, 0, 99), 0);
    Check.due("by the last of the row", x.removeRow(0, 9, 9, -1) + " " + row(x, 0), "1 1 2 1");
    Check.due("by the first of the row", x.removeRow(0, 1, 9, 9) + " " + row(x, 0), "1 2");
    Check.due("the only one", x.removeRow(0, 9, 2, 2) + row(x, 0), "1");
    Check.due("empty", x.removeRow(0, 2, 2, 2), 0);
    Ownshelf kept = withKept(1, 2);
    Check.due("refused", kept.removeRow(0, 9, 9, 2) + " " + row(kept, 0), "-9 1 2");
    Check.due("none to refuse", kept.removeRow(0, 9, 9, 9) + " " + kept.house(3), "0 1");
  }

  private static void retainRow() {
    promise(12, "RETAINS ALL of a told row.",
        "Returns 1 if some went, 0 if none; REFUSED if AWAY refuses.");
    Ownshelf x = with(1, -1, 2, 1);
    Check.due("none", x.retainRow(0, 2, 1, -1), 0);
    Check.due("one", x.retainRow(0, 2, 9, 1) + " " + row(x, 0), "1 1 2 1");
    Check.due("the last", x.retainRow(0, 9, 9, 1) + " " + row(x, 0), "1 1 1");
    Check.due("all", x.retainRow(0, 9, 9, 9) + row(x, 0), "1");
    Check.due("empty", x.retainRow(0, 9, 9, 9), 0);
    Ownshelf kept = withKept(1, 2);
    Check.due("refused", kept.retainRow(0, 1, 1, 1) + " " + row(kept, 0), "-9 1 2");
    Check.due("none to refuse", kept.retainRow(0, 1, 2, 9) + " " + kept.house(3), "0 1");
  }

  private static void containsRow() {
    promise(16, "Returns whether it HAS ALL of that row.");
    Ownshelf x = with(5, -1, 0);
    Check.due("all", x.containsRow(0, 0, -1, 5), true);
    Check.due("one, three times", x.containsRow(0, -1, -1, -1), true);
    Check.due("not a", x.containsRow(0, 9, 5, 5), false);
    Check.due("not b", x.containsRow(0, 5, 9, 5), false);
    Check.due("not c", x.containsRow(0, 5, 5, 9), false);
    Check.due("empty", x.containsRow(1, -1, -1, -1) + " " + counts(x, 1), "false 1 0 0 0 0");
  }

  // Promises 14, 15 and 17 to 20

  private static void questions() {
    contains();
    containsAll();
    isEmpty();
    size();
    text();
    areText();
  }

  private static void contains() {
    promise(14, "Returns whether it HAS it.");
    Ownshelf x = with(0, 50, 99);
    Check.due("first and last", x.contains(0, 0) + " " + x.contains(0, 99), "true true");
    Check.due("not", x.contains(0, -1) + " " + x.contains(0, 98), "false false");
    Check.due("empty", x.contains(1, -1) + " " + x.contains(1, 0), "false false");
    x.remove(0, 99);
    Check.due("what went", x.contains(0, 99), false);
  }

  private static void containsAll() {
    promise(15, "- `other`: another one, or the same",
        "Returns whether the first one HAS ALL of the other one.");
    Ownshelf x = and(with(1, 2), 2, 1, 2);
    Check.due("both", x.containsAll(0, 1) + " " + x.containsAll(1, 0), "true true");
    x.add(1, 3);
    Check.due("the first one", x.containsAll(0, 1) + " " + x.containsAll(1, 0), "false true");
    Check.due("of an empty one", x.containsAll(0, 2) + " " + x.containsAll(2, 0), "true false");
    Check.due("the same", x.containsAll(0, 0) + " " + x.containsAll(2, 2), "true true");
  }

  private static void isEmpty() {
    promise(17, "Returns EMPTY.");
    Ownshelf x = with();
    Check.due("empty", x.isEmpty(0), true);
    x.add(0, -1);
    Check.due("NOTHING is a THING", x.isEmpty(0), false);
    x.remove(0, -1);
    Check.due("what was there went", x.isEmpty(0) + " " + x.count(0, 4), "true 3");
  }

  private static void size() {
    promise(18, "Returns how many THINGS it has (SIZES is 1 more).");
    for (int many = 0; many <= MOST; many++) {
      Ownshelf x = with(rising(30, many));
      Check.due("size", x.size(0) + " " + x.count(0, 4), many + " 1");
      x.add(0, 5);
      Check.due("again", x.size(0) + " " + x.count(0, 4), Math.min(many + 1, MOST) + " 2");
      Check.due("by no WALKER", walked(x, 0), "0 0 0");
    }
  }

  private static void text() {
    promise(19, "Returns TEXT.");
    Ownshelf x = full();
    String all = "30, 31, 32, 33, 34, 35, 36, 37, 38, 39, 40, 41, 42, 43, 44, 45, 46, 47, 48, 49";
    Check.due("20", x.text(0), "[" + all + "]");
    Check.due("empty", x.text(1), "[]");
    Check.due("one", with(-1).text(0), "[null]");
    String kept = x.text(0);
    x.clear(0);
    Check.due("what was told stays", kept + x.text(0), "[" + all + "][]");
  }

  private static void areText() {
    promise(20, "- `other`: another one, or the same",
        "Returns whether both have the same TEXT (first the first one's, then the other one's).");
    Ownshelf x = and(with(1, 2), 2, 1);
    Check.due("both empty", x.areText(2, 3) + " " + counts(x, 2), "true 1 0 0 0 0");
    Check.due("an empty one", x.areText(0, 2) + " " + x.areText(2, 0), "false false");
    Check.due("both are walked", counts(x, 0) + ", " + counts(x, 2), "6 4 0 2 0, 3 0 0 0 0");
    Check.due("another order", x.areText(0, 1) + " " + counts(x, 1), "false 3 2 0 2 0");
    x.make(1, BACK, ANY, MOST, true);
    put(x, 1, 2, 1);
    Check.due("walked BACK", x.areText(0, 1), true);
    Check.due("the same", x.areText(1, 1) + " " + counts(x, 1), "true 9 6 0 2 0");
    Check.due("the same, empty", x.areText(3, 3) + " " + counts(x, 3), "true 3 0 0 0 0");
    Ownshelf last = and(full(), rising(30, 19));
    Check.due("one more", last.areText(0, 1), false);
    last.add(1, 48);
    Check.due("the last one", last.areText(0, 1), false);
    last.remove(1, 48);
    Check.due("0 and NOTHING", and(with(0), -1).areText(0, 1), false);
  }

  // Promises 21 to 23

  private static void eachIsTold() {
    sum();
    greatest();
    order();
  }

  private static void sum() {
    promise(21, "EACH is told to somebody who adds them up.",
        "Returns the sum of all THINGS (NOTHING is 0).");
    Ownshelf x = with(-1);
    Check.due("NOTHING", x.sum(0), 0);
    x.add(0, 5);
    Check.due("NOTHING and 5", x.sum(0), 5);
    Check.due("empty", x.sum(1), 0);
    x.clear(0);
    for (int k = 0; k < MOST; k++) {
      x.add(0, 99);
    }
    Check.due("the greatest sum", x.sum(0), 1980);
  }

  private static void greatest() {
    promise(22, "EACH is told to somebody who keeps the greatest one.",
        "Returns the greatest THING; NONE without one (NOTHING is less than all others).");
    Check.due("without one", with().greatest(0), -1);
    Check.due("NOTHING alone", with(-1, -1).greatest(0), -1);
    Check.due("NOTHING and 0", with(-1, 0, -1).greatest(0), 0);
    Check.due("first", with(99, 98, 0).greatest(0), 99);
    Check.due("last", with(0, 98, 99).greatest(0), 99);
    Check.due("last of 20", full().greatest(0), 49);
  }

  private static void order() {
    promise(23, "EACH is told to somebody who writes them behind each other.",
        "Returns a number: 7 at first, then for each THING 31 times as much, and the THING"
            + " (NOTHING as NONE), and 2, modulo 1000003.");
    Check.due("empty", with().order(0), 7);
    Check.due("NOTHING, 0, 99", with(-1).order(0) + " " + with(0).order(0) + " "
        + with(99).order(0), "218 219 318");
    Check.due("below the modulo", with(15, 28, 1).order(0), 225807);
    // 31 * 225807 is 7000017, and 7 * 1000003 is 7000021.
    Check.due("one less than the modulo", with(15, 28, 1, 1).order(0), 1000002);
    Check.due("the modulo", with(15, 28, 1, 2).order(0), 0);
    Check.due("one more", with(15, 28, 1, 3).order(0), 1);
    Check.due("on from there", with(15, 28, 1, 2, -1).order(0), 1);
    orderOfLongRows();
  }

  private static void orderOfLongRows() {
    for (int thing = -1; thing <= 99; thing++) {
      Ownshelf x = with();
      BigInteger due = BigInteger.valueOf(7);
      for (int k = 0; k < MOST; k++) {
        x.add(0, thing);
        due = due.multiply(BigInteger.valueOf(31)).add(BigInteger.valueOf(thing + 2));
      }
      BigInteger modulo = due.mod(BigInteger.valueOf(1000003));
      Check.due("20 of " + thing, x.order(0), modulo.intValue());
    }
  }

  // Promises 24 to 29

  private static void walkers() {
    begin();
    ask();
    step();
    away();
    rest();
    isHeld();
  }

  private static void begin() {
    promise(24, "A new WALKER is HELD.", "Returns 1 if one was HELD already, otherwise 0.");
    Ownshelf x = with(1, 2);
    Check.due("first", x.begin(0) + " " + x.begin(0), "0 1");
    x.step(0);
    x.begin(0);
    Check.due("new", x.away(0) + " " + x.step(0), "-9 1");
    x.add(0, 3);
    Check.due("let go ahead of it", x.begin(0), 0);
    x.rest(0);
    Check.due("one at its end", x.begin(0) + " " + x.step(0), "1 1");
    Check.due("empty", x.begin(1) + " " + x.begin(1) + " " + x.isHeld(1), "0 1 true");
    Check.due("counts nothing", counts(x, 1), "0 0 0 0 0");
  }

  private static void ask() {
    promise(25, "ASKS the HELD WALKER.", "Returns 1 if there is a next one, otherwise 0.");
    Ownshelf x = with(7);
    x.begin(0);
    x.begin(1);
    Check.due("next, none", x.ask(0) + " " + x.ask(1), "1 0");
    x.step(0);
    Check.due("behind it", x.ask(0) + " " + counts(x, 0), "0 2 1 0 1 0");
    x.begin(0);
    x.step(0);
    x.away(0);
    Check.due("went", x.ask(0), 0);
    x.add(0, 1);
    Check.noWalker("let go", () -> x.ask(0));
    Check.noWalker("never begun", () -> x.ask(3));
  }

  private static void step() {
    promise(26, "The HELD WALKER STEPS.",
        "Returns the THING; REFUSED if there is no next one (then nothing is counted).");
    Ownshelf x = with(-1, 99);
    x.begin(0);
    x.begin(1);
    Check.due("without a question", x.step(0) + " " + x.step(0), "-1 99");
    Check.due("no next one", x.step(0) + " " + x.step(0) + " " + x.step(1), "-9 -9 -9");
    Check.due("nothing is counted", counts(x, 0) + ", " + counts(x, 1), "0 2 0 2 0, 0 0 0 0 0");
    Check.due("told", x.house(3), 3);
    x.remove(0, 99);
    Check.noWalker("let go", () -> x.step(0));
    Check.noWalker("never begun", () -> x.step(3));
  }

  private static void away() {
    promise(27, "AWAY by the HELD WALKER.",
        "Returns how many THINGS are left (without a question); REFUSED if that refuses.");
    Ownshelf x = full();
    x.begin(0);
    Check.due("told none yet", x.away(0), REFUSED);
    x.step(0);
    Check.due("19 are left", x.away(0) + " " + x.away(0), "19 -9");
    for (int left = 18; left >= 0; left--) {
      Check.due("left", x.step(0) + " " + x.away(0), 49 - left + " " + left);
    }
    Check.due("without a question", counts(x, 0), "0 20 20 20 0");
    Check.due("none to go", x.away(0) + " " + x.house(3), "-9 3");
    Ownshelf kept = withKept(1);
    kept.begin(0);
    kept.step(0);
    Check.due("kept", kept.away(0) + " " + counts(kept, 0), "-9 0 1 0 1 0");
    x.make(0, FORTH, ANY, MOST, true);
    Check.noWalker("let go", () -> x.away(0));
  }

  private static void rest() {
    promise(28, "The HELD WALKER goes to its end: as long as there is a next one (ASK) it STEPS,"
        + " and tells it to somebody who counts.", "Returns how many THINGS it told.");
    for (int many = 0; many <= MOST; many++) {
      for (int walk = FORTH; walk <= BACK; walk++) {
        Ownshelf x = with(walk, ANY, MOST, true, rising(30, many));
        x.begin(0);
        Check.due("from the first", x.rest(0) + " " + walked(x, 0),
            many + " " + (many + 1) + " " + many + " 0");
        Check.due("at its end", x.rest(0) + " " + x.ask(0) + " " + x.step(0), "0 0 -9");
        Check.due("held still", x.isHeld(0), true);
        Check.due("told the last", x.away(0), many == 0 ? REFUSED : many - 1);
      }
    }
    Ownshelf x = with(1, 2, 3);
    x.begin(0);
    x.step(0);
    x.away(0);
    Check.due("behind AWAY", x.rest(0) + " " + walked(x, 0), "2 3 3 1");
    Check.noWalker("never begun", () -> x.rest(1));
    x.clear(0);
    Check.noWalker("let go", () -> x.rest(0));
  }

  private static void isHeld() {
    promise(29, "Returns whether a WALKER is HELD.");
    Ownshelf x = with(1);
    Check.due("none", x.isHeld(0), false);
    x.begin(0);
    x.rest(0);
    x.away(0);
    Check.due("at its end, and empty", x.isHeld(0) + " " + x.isHeld(1), "true false");
    x.clear(0);
    Check.due("none to clear", x.isHeld(0), true);
    x.add(0, 1);
    Check.due("let go", x.isHeld(0), false);
  }

  // Promises 30 to 33

  private static void askedWithoutWalking() {
    thing();
    count();
    ofShelf();
    areRows();
  }

  private static void thing() {
    promise(30, "Returns the THING there.");
    Ownshelf x = full();
    for (int place = 0; place < MOST; place++) {
      Check.due("place " + place, x.thing(0, place), 30 + place);
    }
    Check.noShelf("place 20", () -> x.thing(0, MOST));
    Check.noShelf("place -1", () -> x.thing(0, -1));
    Check.noShelf("empty", () -> x.thing(1, 0));
    x.remove(0, 30);
    Check.due("moved up", x.thing(0, 0) + " " + x.thing(0, 18), "31 49");
    Check.noShelf("place 19 of 19", () -> x.thing(0, 19));
    x.make(0, BACK, ANY, MOST, true);
    put(x, 0, 5, -1);
    Check.due("places, not WALK", x.thing(0, 0) + " " + x.thing(0, 1), "5 -1");
    Check.noShelf("place 2 of 2", () -> x.thing(0, 2));
  }

  private static void count() {
    promise(31, "- `what`: 0 ASKS, 1 STEPS, 2 AWAYS, 3 ADDS, 4 SIZES", "Returns that.");
    Ownshelf x = with(1, 2, 3, 4, 5, 6);
    x.begin(0);
    x.step(0);
    x.away(0);
    x.step(0);
    x.step(0);
    x.away(0);
    x.size(0);
    Check.due("each its own", counts(x, 0), "0 3 2 6 1");
    x.ask(0);
    Check.due("ASKS", counts(x, 0), "1 3 2 6 1");
    Check.badArgument("what -1", () -> x.count(0, -1));
    Check.badArgument("what 5", () -> x.count(0, 5));
    Check.due("a question counts nothing", counts(x, 0), "1 3 2 6 1");
  }

  private static void ofShelf() {
    promise(32, "- `what`: 0 how many THINGS (without a question), 1 WALK, 2 RULE, 3 LIMIT,"
        + " 4 1 if it GIVES AWAY, otherwise 0", "Returns that.");
    Ownshelf x = with(BACK, UNLIKE, 7, false, 1, 2, 3);
    Check.due("each its own", traits(x, 0) + ", " + counts(x, 0), "3 1 1 7 0, 0 0 0 3 0");
    x.make(0, FORTH, NEVER, 1, true);
    Check.due("LIMIT 1", traits(x, 0), "0 0 2 1 1");
    x.make(0, FORTH, ANY, MOST, false);
    x.fill(0, MOST, 0, 1);
    Check.due("LIMIT 20", traits(x, 0) + ", " + counts(x, 0), "20 0 0 20 0, 0 0 0 20 0");
    Check.badArgument("what -1", () -> x.ofShelf(0, -1));
    Check.badArgument("what 5", () -> x.ofShelf(0, 5));
  }

  private static void areRows() {
    promise(33, "- `other`: another one, or the same",
        "Returns whether both have ALIKE THINGS on the same places, and no more.");
    Ownshelf x = and(full(), rising(30, 19));
    Check.due("both empty, the same", x.areRows(2, 3) + " " + x.areRows(3, 3), "true true");
    Check.due("an empty one", x.areRows(0, 2) + " " + x.areRows(2, 0), "false false");
    Check.due("one more", x.areRows(0, 1) + " " + x.areRows(1, 0), "false false");
    x.add(1, 50);
    Check.due("not the last of 20", x.areRows(0, 1) + " " + x.areRows(1, 0), "false false");
    x.remove(1, 50);
    x.add(1, 49);
    Check.due("20 ALIKE", x.areRows(0, 1) + " " + x.areRows(0, 0), "true true");
    x.make(2, BACK, UNLIKE, MOST, false);
    put(x, 2, 29);
    put(x, 2, rising(31, 19));
    Check.due("not the first of 20", x.areRows(0, 2), false);
    x.make(2, BACK, UNLIKE, MOST, false);
    put(x, 2, rising(30, MOST));
    Check.due("other traits", x.areRows(0, 2), true);
    Check.due("by no WALKER", counts(x, 0), "0 0 0 20 0");
    Check.due("NOTHING and 0", and(with(-1), 0).areRows(0, 1), false);
    Check.due("NOTHING and NOTHING", and(with(-1), -1).areRows(0, 1), true);
  }

  // Promises 34 to 37

  private static void all() {
    house();
    houseRefusals();
    knock();
    isSound();
    digest();
    digestWraps();
  }

  private static void house() {
    promise(34, "- `what`: 0 THINGS of all SHELVES, 1 how many SHELVES are EMPTY (without a"
        + " question), 2 how many WALKERS are HELD,", " 4 how often one knocked",
        "Returns that.");
    Ownshelf x = new Ownshelf();
    Check.due("least", house(x), "0 4 0 0 0");
    for (int shelf = 0; shelf < 4; shelf++) {
      x.fill(shelf, MOST, 0, 1);
      x.begin(shelf);
      x.knock();
      int many = shelf + 1;
      Check.due("each its own", house(x), many * 20 + " " + (4 - many) + " " + many + " 0 " + many);
    }
    Check.due("without a question", counts(x, 0) + ", " + counts(x, 3), "0 0 0 20 0, 0 0 0 20 0");
    x.clear(2);
    Check.due("one EMPTY, its WALKER let go", house(x), "60 1 3 0 4");
    x.add(2, -1);
    Check.due("NOTHING is a THING", house(x), "61 0 3 0 4");
    Check.badArgument("what -1", () -> x.house(-1));
    Check.badArgument("what 5", () -> x.house(5));
  }

  private static void refuses(String call, int due, Use use) {
    Ownshelf x = withKept(1, 2);
    x.make(1, FORTH, NEVER, 1, true);
    x.begin(0);
    x.begin(1);
    use.of(x);
    Check.due("house 3 after " + call, x.house(3), due);
    x.make(0, FORTH, ANY, MOST, true);
    x.make(1, FORTH, ANY, MOST, true);
    Check.due("ever, after " + call, x.house(3), due);
  }

  private static void houseRefusals() {
    promise(34, " 3 how often REFUSED was told ever,");
    refuses("nothing", 0, x -> x.text(0));
    refuses("add", 1, x -> x.add(1, 1));
    refuses("fill, that tells it not", 0, x -> x.fill(1, 5, 1, 1));
    refuses("remove", 1, x -> x.remove(0, 2));
    refuses("clear", 1, x -> x.clear(0));
    refuses("addAll", 1, x -> x.addAll(1, 0));
    refuses("removeAll", 1, x -> x.removeAll(0, 0));
    refuses("retainAll", 1, x -> x.retainAll(0, 1));
    refuses("addRow", 1, x -> x.addRow(1, 1, 2, 3));
    refuses("removeRow", 1, x -> x.removeRow(0, 1, 2, 3));
    refuses("retainRow", 1, x -> x.retainRow(0, 3, 3, 3));
    refuses("removeNone", 1, x -> x.removeNone(0, false));
    refuses("removeNone that retains", 1, x -> x.removeNone(1, true));
    refuses("step", 1, x -> x.step(1));
    refuses("away", 1, x -> x.away(0));
    refuses("away behind a step", 1, x -> {
      x.step(0);
      x.away(0);
    });
    refuses("an exception", 0, x -> Check.badArgument("add", () -> x.add(1, 100)));
    refuses("isSound", 0, Ownshelf::isSound);
    refuses("digest", 0, Ownshelf::digest);
    refuses("remove of none", 0, x -> x.remove(0, 9));
    refuses("clear of none", 0, x -> x.clear(1));
    refuses("addAll of none", 0, x -> x.addAll(1, 2));
  }

  private static void knock() {
    promise(35, "Knocks at the shelves.", "Returns how often ever, with this.");
    Ownshelf x = with(1);
    x.begin(0);
    Check.due("first", x.knock() + " " + x.house(4), "1 1");
    x.make(0, FORTH, ANY, MOST, true);
    for (int k = 2; k <= 500; k++) {
      Check.due("ever", x.knock(), k);
    }
    Check.due("shelves", counts(x, 0) + ", " + x.house(4), "0 0 0 0 0, 500");
  }

  private static void isSound() {
    promise(36, "Returns whether all of this is so, of copies of the SHELVES: each HAS ALL of"
        + " itself; of each two, of both copies GIVING AWAY: what is left by REMOVE ALL and what is"
        + " left by RETAIN ALL of the other one are as many as there were, and what is left by"
        + " REMOVE ALL HAS none of the other one's THINGS, the other one HAS ALL of what is left by"
        + " RETAIN ALL; a copy GIVING AWAY is EMPTY, CLEARED; those with the same ROW and WALK have"
        + " the same TEXT; and no SHELF has more THINGS than its LIMIT (COUNTS stay).");
    Check.due("all empty", new Ownshelf().isSound(), true);
    Ownshelf x = new Ownshelf();
    for (int shelf = 0; shelf < 4; shelf++) {
      x.make(shelf, shelf % 2, shelf / 2, MOST, shelf == 0);
      x.fill(shelf, MOST, 0, 1);
      x.begin(shelf);
      x.step(shelf);
    }
    long before = x.digest();
    Check.due("full, some ALIKE, that keep", x.isSound() && x.isSound(), true);
    Check.due("COUNTS stay", counts(x, 0) + ", " + counts(x, 3), "0 1 0 20 0, 0 1 0 10 0");
    Check.due("all stays", x.digest(), before);
    Check.due("WALKERS stay", x.step(0) + " " + x.step(1) + " " + x.step(2) + " " + x.away(0),
        "1 8 1 19");
    x.make(0, BACK, NEVER, 1, false);
    x.make(1, FORTH, ANY, 1, true);
    put(x, 1, -1);
    Check.due("LIMIT 1, NEVER, NOTHING", x.isSound(), true);
  }

  private static void digest() {
    promise(37, "Computes a checksum. A number d starts with 7786; for each of the following"
        + " numbers v, d becomes d * 31 + v,", " house() of 0 to 4; SHELF by SHELF ofShelf() of 0"
        + " to 4, count() of 0 to 4, each THING (place by place), 1 if one is HELD, otherwise 0,"
        + " and the codes of the signs of its TEXT (of a copy); 1 if isSound(), otherwise 0.",
        "Returns d.");
    Ownshelf x = new Ownshelf();
    x.make(1, BACK, UNLIKE, 9, false);
    x.addRow(1, -1, 0, 99);
    x.make(3, FORTH, NEVER, 1, true);
    x.fill(0, MOST, 0, 1);
    x.begin(0);
    x.rest(0);
    x.begin(1);
    x.size(2);
    x.clear(1);
    x.removeNone(0, true);
    x.knock();
    String tens = "0, 1, 2, 3, 4, 5, 6, 7, 8, 9";
    String[] texts = {"[" + tens + ", " + tens + "]", "[99, 0, null]", "[]", "[]"};
    Check.due("used", x.digest(), unwrapped(x, 1, texts).longValue());
    Check.due("COUNTS stay", counts(x, 0) + ", " + counts(x, 1), "21 20 0 20 0, 1 1 0 3 0");
    Check.due("again", x.digest(), unwrapped(x, 1, texts).longValue());
    Check.due("WALKERS stay", x.step(0) + " " + x.step(1), "-9 99");
  }

  private static void digestWraps() {
    promise(37, " which wraps around as a 64-bit integer:");
    boolean isBelow = false;
    boolean isAbove = false;
    Ownshelf x = new Ownshelf();
    for (int k = 0; k < 8; k++) {
      BigInteger due = unwrapped(x, 1, "[]", "[]", "[]", "[]");
      Check.due("more than 64 bits", due.bitLength() > 64, true);
      Check.due("the last 64", x.digest(), due.longValue());
      isBelow |= due.longValue() < 0;
      isAbove |= due.longValue() > 0;
      x.knock();
    }
    Check.due("both signs are met", isBelow && isAbove, true);
  }
}
