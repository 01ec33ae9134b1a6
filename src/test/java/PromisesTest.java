/** Each promise of the document: ordinary calls, the edges that it names, and wrong arguments. */
public final class PromisesTest extends Shelves {
  public static void main(String[] arguments) {
    newObject();
    make();
    add();
    fill();
    remove();
    clear();
    addAll();
    removeAll();
    retainAll();
    addRow();
    removeRow();
    retainRow();
    removeNone();
    contains();
    containsAll();
    containsRow();
    isEmpty();
    size();
    text();
    areText();
    sum();
    greatest();
    order();
    begin();
    ask();
    step();
    away();
    rest();
    isHeld();
    thing();
    count();
    ofShelf();
    areRows();
    house();
    knock();
    isSound();
    digest();
    fullShelves();
    heldWalkers();
    throwingChangesNothing();
    Check.end("PromisesTest");
  }

  private static void newObject() {
    Check.part("1 new object");
    Ownshelf x = new Ownshelf();
    for (int shelf = 0; shelf < 4; shelf++) {
      Check.due("ofShelf " + shelf, traits(x, shelf), "0 0 0 20 1");
      Check.due("counts " + shelf, counts(x, shelf), "0 0 0 0 0");
      Check.due("isHeld " + shelf, x.isHeld(shelf), false);
    }
    int[] house = {0, 4, 0, 0, 0};
    for (int what = 0; what < 5; what++) {
      Check.due("house " + what, x.house(what), house[what]);
    }
  }

  private static void make() {
    Check.part("2 make");
    Ownshelf x = with(1, 2, 3);
    x.size(0);
    x.begin(0);
    x.step(0);
    x.away(0);
    Check.due("make", x.make(0, 1, 2, 7, false), 2);
    Check.due("traits", traits(x, 0), "0 1 2 7 0");
    Check.due("counts", counts(x, 0), "0 0 0 0 0");
    Check.due("isHeld", x.isHeld(0), false);
    Check.due("make again", x.make(0, 0, 1, 1, true), 0);
    Check.due("least limit", traits(x, 0), "0 0 1 1 1");
    Check.due("make 3", x.make(3, 0, 0, 20, true), 0);
    int[][] wrong = {{-1, 0, 5}, {2, 0, 5}, {0, -1, 5}, {0, 3, 5}, {0, 0, 0}, {0, 0, 21}};
    for (int[] w : wrong) {
      Check.badArgument("make " + w[0] + w[1] + w[2], () -> x.make(0, w[0], w[1], w[2], true));
    }
    Check.noShelf("make(-1)", () -> x.make(-1, 0, 0, 5, true));
    Check.noShelf("make(4), all wrong", () -> x.make(4, 9, 9, 99, true));
    Check.due("unchanged", traits(x, 0), "0 0 1 1 1");
  }

  private static void add() {
    Check.part("3 add");
    Ownshelf x = with();
    Check.due("add 0", x.add(0, 0), 1);
    Check.due("add NOTHING", x.add(0, -1), 1);
    Check.due("add 99", x.add(0, 99), 1);
    Check.due("add 0 again", x.add(0, 0), 1);
    Check.due("row", row(x, 0), "0 -1 99 0");
    Check.due("counts", counts(x, 0), "0 0 0 4 0");
    x.make(0, 0, 1, 2, true);
    Check.due("UNLIKE", "" + x.add(0, -1) + x.add(0, -1) + x.add(0, 5), "101");
    Check.due("UNLIKE and full", "" + x.add(0, 5) + x.add(0, 6), "0-9");
    Check.due("UNLIKE counts", counts(x, 0), "0 0 0 2 0");
    x.make(0, 0, 2, 20, true);
    Check.due("NEVER", x.add(0, 5), REFUSED);
    Check.due("NEVER counts", counts(x, 0), "0 0 0 0 0");
    x.make(0, 1, 0, 1, true);
    Check.due("LIMIT", "" + x.add(0, 5) + x.add(0, 5), "1-9");
    Check.due("house 3", x.house(3), 3);
    Check.badArgument("add -2", () -> x.add(0, -2));
    Check.badArgument("add 100", () -> x.add(0, 100));
    Check.noShelf("shelf -1", () -> x.add(-1, 100));
    Check.noShelf("shelf 4", () -> x.add(4, 1));
  }

  private static void fill() {
    Check.part("4 fill");
    Ownshelf x = with();
    Check.due("fill", x.fill(0, 4, 98, 99), 4);
    Check.due("row", row(x, 0), "8 7 6 5");
    Check.due("till it refuses", x.fill(0, 20, 0, 1), 16);
    Check.due("full", x.fill(0, 1, 0, 1), 0);
    Check.due("none asked", x.fill(1, 0, 0, 0), 0);
    Check.due("house 3", x.house(3), 0);
    Check.due("counts", counts(x, 0), "0 0 0 20 0");
    x.make(0, 0, 1, 3, true);
    Check.due("UNLIKE goes on", x.fill(0, 20, 1, 5), 2);
    Check.due("UNLIKE row", row(x, 0), "1 6");
    x.make(0, 0, 2, 3, true);
    Check.due("NEVER", x.fill(0, 3, 1, 5), 0);
    int[][] wrong = {{-1, 0, 0}, {21, 0, 0}, {1, -1, 0}, {1, 100, 0}, {1, 0, -1}, {1, 0, 100}};
    for (int[] w : wrong) {
      Check.badArgument("fill " + w[0] + w[1] + w[2], () -> x.fill(0, w[0], w[1], w[2]));
    }
    Check.noShelf("shelf -1", () -> x.fill(-1, 21, 0, 0));
    Check.noShelf("shelf 4", () -> x.fill(4, 1, 0, 0));
  }

  private static void remove() {
    Check.part("5 remove");
    Ownshelf x = with(1, 2, 1, -1);
    Check.due("first ALIKE", x.remove(0, 1), 1);
    Check.due("row", row(x, 0), "2 1 -1");
    Check.due("counts", counts(x, 0), "1 1 1 4 0");
    Check.due("NOTHING", x.remove(0, -1), 1);
    Check.due("none", x.remove(0, 7), 0);
    Check.due("counts then", counts(x, 0), "7 6 2 4 0");
    Ownshelf back = with(1, 0, 20, true, 1, 2, 1);
    Check.due("BACK", back.remove(0, 1), 1);
    Check.due("BACK row", row(back, 0), "1 2");
    Ownshelf keeps = with(0, 0, 20, false, 1, 2);
    Check.due("refused", keeps.remove(0, 2), REFUSED);
    Check.due("not there", keeps.remove(0, 3), 0);
    Check.due("counts kept", counts(keeps, 0), "5 4 0 2 0");
    Check.due("house 3", keeps.house(3), 1);
    Check.badArgument("-2", () -> x.remove(0, -2));
    Check.badArgument("100", () -> x.remove(0, 100));
    Check.noShelf("shelf -1", () -> x.remove(-1, -2));
    Check.noShelf("shelf 4", () -> x.remove(4, 1));
  }

  private static void clear() {
    Check.part("6 clear");
    Ownshelf x = with(1, 2, 3);
    Check.due("clear", x.clear(0), 3);
    Check.due("counts", counts(x, 0), "4 3 3 3 0");
    Check.due("empty", x.clear(0), 0);
    Check.due("counts then", counts(x, 0), "5 3 3 3 0");
    Ownshelf back = with(1, 0, 20, true, 1, 2, 3);
    Check.due("BACK", back.clear(0) + " " + counts(back, 0) + row(back, 0), "3 4 3 3 3 0");
    Ownshelf full = with();
    full.fill(0, 20, 0, 1);
    Check.due("full", full.clear(0) + " " + counts(full, 0), "20 21 20 20 20 0");
    Ownshelf keeps = with(0, 0, 20, false, 1, 2);
    Check.due("refused", keeps.clear(0), REFUSED);
    Check.due("counts kept", counts(keeps, 0), "1 1 0 2 0");
    Check.due("house 3", keeps.house(3), 1);
    keeps.make(0, 0, 0, 20, false);
    Check.due("nothing to give", keeps.clear(0), 0);
    Check.noShelf("shelf -1", () -> x.clear(-1));
    Check.noShelf("shelf 4", () -> x.clear(4));
  }

  private static void addAll() {
    Check.part("7 addAll");
    Ownshelf x = with(1, 0, 20, true, 1, 2, 3);
    Check.due("addAll", x.addAll(1, 0), 1);
    Check.due("in the other's WALK", row(x, 1), "3 2 1");
    Check.due("counts of the other", counts(x, 0), "4 3 0 3 0");
    Check.due("counts", counts(x, 1), "0 0 0 3 0");
    Check.due("of an empty one", x.addAll(0, 2), 0);
    x.make(2, 0, 1, 5, true);
    put(x, 2, 3, 2, 1);
    Check.due("UNLIKE", x.addAll(2, 0), 0);
    x.make(2, 0, 0, 2, true);
    Check.due("LIMIT", x.addAll(2, 0), REFUSED);
    Check.due("what was done stays", row(x, 2), "3 2");
    Check.due("over as it refuses", counts(x, 0), "11 9 0 3 0");
    x.make(2, 0, 2, 2, true);
    Check.due("NEVER", x.addAll(2, 0), REFUSED);
    Check.due("NEVER of none", x.addAll(2, 3), 0);
    Check.due("house 3", x.house(3), 2);
    Check.badArgument("the same", () -> x.addAll(1, 1));
    Check.noShelf("shelf 4", () -> x.addAll(4, 4));
    Check.noShelf("other -1", () -> x.addAll(0, -1));
    Check.noShelf("other 4", () -> x.addAll(0, 4));
  }

  private static void removeAll() {
    Check.part("8 removeAll");
    Ownshelf x = with(1, 2, 1, 3);
    put(x, 1, 1, 3);
    Check.due("removeAll", x.removeAll(0, 1), 1);
    Check.due("row", row(x, 0), "2");
    Check.due("counts", counts(x, 0), "5 4 3 4 0");
    Check.due("counts of the other", counts(x, 1), "7 6 0 2 0");
    Check.due("none", x.removeAll(0, 1), 0);
    x.make(0, 1, 0, 20, true);
    put(x, 0, 1, 2, 3);
    Check.due("itself", x.removeAll(0, 0) + row(x, 0), "1");
    Check.due("counts of itself", counts(x, 0), "7 6 3 3 0");
    x.make(2, 0, 0, 20, false);
    put(x, 2, 2, 1, 3);
    Check.due("refused", x.removeAll(2, 1), REFUSED);
    Check.due("counts kept", counts(x, 2), "2 2 0 3 0");
    Check.due("house 3", x.house(3), 1);
    Check.noShelf("shelf 4", () -> x.removeAll(4, 0));
    Check.noShelf("other -1", () -> x.removeAll(0, -1));
    Check.noShelf("other 4", () -> x.removeAll(0, 4));
  }

  private static void retainAll() {
    Check.part("9 retainAll");
    Ownshelf x = with(1, -1, 2, -1);
    put(x, 1, -1, 7);
    Check.due("retainAll", x.retainAll(0, 1), 1);
    Check.due("row", row(x, 0), "-1 -1");
    Check.due("counts", counts(x, 0), "5 4 2 4 0");
    Check.due("counts of the other", counts(x, 1), "8 6 0 2 0");
    Check.due("none", x.retainAll(0, 1), 0);
    Check.due("itself", x.retainAll(0, 0), 0);
    Check.due("an empty one", x.retainAll(0, 3) + row(x, 0), "1");
    x.make(2, 0, 0, 20, false);
    put(x, 2, 7, 8, 9);
    Check.due("refused", x.retainAll(2, 1), REFUSED);
    Check.due("counts kept", counts(x, 2), "2 2 0 3 0");
    Check.due("house 3", x.house(3), 1);
    Check.noShelf("shelf -1", () -> x.retainAll(-1, 0));
    Check.noShelf("other -1", () -> x.retainAll(0, -1));
    Check.noShelf("other 4", () -> x.retainAll(0, 4));
  }

  private static void addRow() {
    Check.part("10 addRow");
    Ownshelf x = with(1, 0, 20, true);
    Check.due("addRow", x.addRow(0, 99, -1, 0) + " " + row(x, 0), "1 99 -1 0");
    Check.due("counts", counts(x, 0), "0 0 0 3 0");
    x.make(0, 0, 1, 2, true);
    Check.due("UNLIKE", x.addRow(0, 4, 4, 4) + row(x, 0), "14");
    Check.due("UNLIKE, none", x.addRow(0, 4, 4, 4), 0);
    Check.due("LIMIT", x.addRow(0, 5, 4, 6), REFUSED);
    Check.due("what was done stays", row(x, 0), "4 5");
    x.make(0, 0, 2, 2, true);
    Check.due("NEVER", x.addRow(0, 5, 4, 6), REFUSED);
    Check.due("house 3", x.house(3), 2);
    Check.badArgument("a", () -> x.addRow(1, -2, 0, 0));
    Check.badArgument("b", () -> x.addRow(1, 0, 100, 0));
    Check.badArgument("c", () -> x.addRow(1, 0, 0, 100));
    Check.due("unchanged", row(x, 1), "");
    Check.noShelf("shelf 4", () -> x.addRow(4, 100, 0, 0));
  }

  private static void removeRow() {
    Check.part("11 removeRow");
    Ownshelf x = with(1, 2, -1, 1);
    Check.due("removeRow", x.removeRow(0, -1, 1, 9) + " " + row(x, 0), "1 2");
    Check.due("counts", counts(x, 0), "5 4 3 4 0");
    Check.due("none", x.removeRow(0, -1, 1, 9), 0);
    Ownshelf keeps = with(0, 0, 20, false, 1, 2, 3);
    Check.due("refused", keeps.removeRow(0, 7, 7, 2), REFUSED);
    Check.due("counts kept", counts(keeps, 0), "2 2 0 3 0");
    Check.due("none there", keeps.removeRow(0, 7, 7, 7), 0);
    Check.due("house 3", keeps.house(3), 1);
    Check.badArgument("a", () -> x.removeRow(0, 100, 0, 0));
    Check.badArgument("b", () -> x.removeRow(0, 0, -2, 0));
    Check.badArgument("c", () -> x.removeRow(0, 0, 0, -2));
    Check.noShelf("shelf 4", () -> x.removeRow(4, 100, 0, 0));
  }

  private static void retainRow() {
    Check.part("12 retainRow");
    Ownshelf x = with(1, 2, -1, 1);
    Check.due("retainRow", x.retainRow(0, 9, -1, 2) + " " + row(x, 0), "1 2 -1");
    Check.due("counts", counts(x, 0), "5 4 2 4 0");
    Check.due("none", x.retainRow(0, 2, 2, -1), 0);
    Ownshelf keeps = with(1, 0, 20, false, 1, 2, 3);
    Check.due("refused", keeps.retainRow(0, 3, 2, 7), REFUSED);
    Check.due("counts kept", counts(keeps, 0), "3 3 0 3 0");
    Check.due("all there", keeps.retainRow(0, 3, 2, 1), 0);
    Check.due("house 3", keeps.house(3), 1);
    Check.badArgument("a", () -> x.retainRow(0, -2, 0, 0));
    Check.badArgument("b", () -> x.retainRow(0, 0, -2, 0));
    Check.badArgument("c", () -> x.retainRow(0, 0, 0, 100));
    Check.noShelf("shelf -1", () -> x.retainRow(-1, 100, 0, 0));
  }

  private static void removeNone() {
    Check.part("13 removeNone");
    Ownshelf x = with(1);
    x.begin(0);
    Check.due("remove", x.removeNone(0, false), REFUSED);
    Check.due("retain", x.removeNone(3, true), REFUSED);
    Check.due("without a WALKER", counts(x, 0) + x.isHeld(0), "0 0 0 1 0true");
    Check.due("house 3", x.house(3), 2);
    Check.noShelf("shelf -1", () -> x.removeNone(-1, true));
    Check.noShelf("shelf 4", () -> x.removeNone(4, false));
    Check.due("house 3 then", x.house(3), 2);
  }

  private static void contains() {
    Check.part("14 contains");
    Ownshelf x = with(1, 0, 20, true, 5, -1, 7);
    Check.due("NOTHING", x.contains(0, -1), true);
    Check.due("counts", counts(x, 0), "2 2 0 3 0");
    Check.due("not", x.contains(0, 6), false);
    Check.due("counts then", counts(x, 0), "6 5 0 3 0");
    Check.due("0 is not NOTHING", x.contains(0, 0), false);
    x.make(1, 0, 0, 20, true);
    Check.due("empty", x.contains(1, -1) + counts(x, 1), "false1 0 0 0 0");
    Check.badArgument("-2", () -> x.contains(0, -2));
    Check.badArgument("100", () -> x.contains(0, 100));
    Check.noShelf("shelf -1", () -> x.contains(-1, 100));
    Check.noShelf("shelf 4", () -> x.contains(4, 0));
  }

  private static void containsAll() {
    Check.part("15 containsAll");
    Ownshelf x = with(1, 2, 3);
    put(x, 1, 3, 1);
    Check.due("has all", x.containsAll(0, 1), true);
    Check.due("counts", counts(x, 0) + ", " + counts(x, 1), "4 4 0 3 0, 3 2 0 2 0");
    Check.due("has not", x.containsAll(1, 0), false);
    Check.due("over then", counts(x, 0) + ", " + counts(x, 1), "6 6 0 3 0, 8 6 0 2 0");
    Check.due("itself", x.containsAll(1, 1) + counts(x, 1), "true14 11 0 2 0");
    Check.due("of an empty one", x.containsAll(3, 2), true);
    Check.noShelf("shelf 4", () -> x.containsAll(4, 0));
    Check.noShelf("other -1", () -> x.containsAll(0, -1));
    Check.noShelf("other 4", () -> x.containsAll(0, 4));
  }

  private static void containsRow() {
    Check.part("16 containsRow");
    Ownshelf x = with(1, -1, 3);
    Check.due("has all", x.containsRow(0, 3, -1, 3), true);
    Check.due("counts", counts(x, 0), "8 8 0 3 0");
    Check.due("has not", x.containsRow(0, 1, 2, 3), false);
    Check.due("over then", counts(x, 0), "13 12 0 3 0");
    Check.due("not the last", x.containsRow(0, 1, 1, 4), false);
    Check.badArgument("a", () -> x.containsRow(0, 100, 0, 0));
    Check.badArgument("b", () -> x.containsRow(0, 0, 100, 0));
    Check.badArgument("c", () -> x.containsRow(0, 0, 0, -2));
    Check.noShelf("shelf 4", () -> x.containsRow(4, 100, 0, 0));
  }

  private static void isEmpty() {
    Check.part("17 isEmpty");
    Ownshelf x = with(1);
    Check.due("not", x.isEmpty(0) + counts(x, 0), "false0 0 0 1 1");
    Check.due("empty", x.isEmpty(1) + counts(x, 1), "true0 0 0 0 1");
    Check.noShelf("shelf -1", () -> x.isEmpty(-1));
    Check.noShelf("shelf 4", () -> x.isEmpty(4));
  }

  private static void size() {
    Check.part("18 size");
    Ownshelf x = with(1, -1);
    Check.due("size", "" + x.size(0) + x.size(0) + " " + counts(x, 0), "22 0 0 0 2 2");
    Check.due("empty", x.size(3), 0);
    Check.noShelf("shelf -1", () -> x.size(-1));
    Check.noShelf("shelf 4", () -> x.size(4));
  }

  private static void text() {
    Check.part("19 text");
    Ownshelf x = with(0, 9, 10, -1, 99);
    Check.due("FORTH", x.text(0), "[0, 9, 10, null, 99]");
    Check.due("counts", counts(x, 0), "6 5 0 5 0");
    x.make(1, 1, 0, 20, false);
    put(x, 1, -1, 20, 3);
    Check.due("BACK", x.text(1), "[3, 20, null]");
    Check.due("empty", x.text(2) + counts(x, 2), "[]1 0 0 0 0");
    Check.due("shorter then", x.text(1), "[3, 20, null]");
    Check.noShelf("shelf -1", () -> x.text(-1));
    Check.noShelf("shelf 4", () -> x.text(4));
  }

  private static void areText() {
    Check.part("20 areText");
    Ownshelf x = with(1, 2);
    x.make(1, 1, 0, 20, true);
    put(x, 1, 2, 1);
    put(x, 2, 2, 1);
    Check.due("same", x.areText(0, 1), true);
    Check.due("counts", counts(x, 0) + ", " + counts(x, 1), "3 2 0 2 0, 3 2 0 2 0");
    Check.due("other", x.areText(0, 2), false);
    Check.due("itself", x.areText(2, 2) + counts(x, 2), "true9 6 0 2 0");
    put(x, 3, 1);
    Check.due("shorter", x.areText(0, 3), false);
    put(x, 3, 22);
    Check.due("longer by a sign", x.areText(0, 3), false);
    Check.noShelf("shelf 4", () -> x.areText(4, 0));
    Check.noShelf("other -1", () -> x.areText(0, -1));
    Check.noShelf("other 4", () -> x.areText(0, 4));
  }

  private static void sum() {
    Check.part("21 sum");
    Ownshelf x = with(99, -1, -1, 1);
    Check.due("sum", x.sum(0) + " " + counts(x, 0), "100 5 4 0 4 0");
    Check.due("empty", x.sum(1) + " " + counts(x, 1), "0 1 0 0 0 0");
    Check.noShelf("shelf -1", () -> x.sum(-1));
    Check.noShelf("shelf 4", () -> x.sum(4));
  }

  private static void greatest() {
    Check.part("22 greatest");
    Ownshelf x = with(-1, 3, 99, 4);
    Check.due("greatest", x.greatest(0) + " " + counts(x, 0), "99 5 4 0 4 0");
    Check.due("empty", x.greatest(1) + " " + counts(x, 1), "-1 1 0 0 0 0");
    put(x, 2, -1);
    Check.due("NOTHING", x.greatest(2), -1);
    put(x, 2, 0);
    Check.due("NOTHING and 0", x.greatest(2), 0);
    Check.noShelf("shelf -1", () -> x.greatest(-1));
    Check.noShelf("shelf 4", () -> x.greatest(4));
  }

  private static void order() {
    Check.part("23 order");
    Ownshelf x = with(3, -1);
    Check.due("order", x.order(0), (7 * 31 + 5) * 31 + 1);
    Check.due("counts", counts(x, 0), "3 2 0 2 0");
    x.make(1, 1, 0, 20, true);
    put(x, 1, 3, -1);
    Check.due("BACK", x.order(1), (7 * 31 + 1) * 31 + 5);
    Check.due("empty", x.order(2), 7);
    put(x, 3, 99, 99, 99, 99);
    int unbounded = 7 * 923521 + 101 * (29791 + 961 + 31 + 1);
    Check.due("modulo", x.order(3), unbounded % 1000003);
    Check.noShelf("shelf -1", () -> x.order(-1));
    Check.noShelf("shelf 4", () -> x.order(4));
  }

  private static void begin() {
    Check.part("24 begin");
    Ownshelf x = with(1, 2);
    Check.due("first", x.begin(0), 0);
    x.step(0);
    Check.due("again", x.begin(0), 1);
    Check.due("from the start", x.step(0), 1);
    x.begin(0);
    Check.due("told none yet", x.away(0), REFUSED);
    Check.due("counts", counts(x, 0), "0 2 0 2 0");
    Check.noShelf("shelf -1", () -> x.begin(-1));
    Check.noShelf("shelf 4", () -> x.begin(4));
  }

  private static void ask() {
    Check.part("25 ask");
    Ownshelf x = with(1);
    Check.noWalker("none held", () -> x.ask(0));
    x.begin(0);
    Check.due("next", "" + x.ask(0) + x.ask(0), "11");
    x.step(0);
    Check.due("no next", x.ask(0), 0);
    Check.due("counts", counts(x, 0), "3 1 0 1 0");
    x.make(1, 1, 0, 20, true);
    x.begin(1);
    Check.due("BACK, empty", x.ask(1), 0);
    Check.noShelf("shelf -1", () -> x.ask(-1));
    Check.noShelf("shelf 4", () -> x.ask(4));
  }

  private static void step() {
    Check.part("26 step");
    Ownshelf x = with(-1, 4);
    Check.noWalker("none held", () -> x.step(0));
    x.begin(0);
    Check.due("steps", x.step(0) + " " + x.step(0) + " " + x.step(0), "-1 4 -9");
    Check.due("counts", counts(x, 0), "0 2 0 2 0");
    Check.due("house 3", x.house(3), 1);
    Check.due("the last told stays so", x.away(0), 1);
    x.make(0, 1, 0, 20, true);
    put(x, 0, 7, 8);
    x.begin(0);
    Check.due("BACK", x.step(0) + " " + x.step(0) + " " + x.step(0), "8 7 -9");
    Check.noShelf("shelf -1", () -> x.step(-1));
    Check.noShelf("shelf 4", () -> x.step(4));
  }

  private static void away() {
    Check.part("27 away");
    Ownshelf x = with(1, 2, 3);
    Check.noWalker("none held", () -> x.away(0));
    x.begin(0);
    Check.due("told none yet", x.away(0), REFUSED);
    x.step(0);
    Check.due("away", x.away(0), 2);
    Check.due("went already", x.away(0), REFUSED);
    Check.due("goes on", x.step(0) + " " + x.step(0) + " " + x.away(0), "2 3 1");
    Check.due("still held", x.isHeld(0), true);
    Check.due("counts", counts(x, 0), "0 3 2 3 0");
    Check.due("house 3", x.house(3), 2);
    Ownshelf back = with(1, 0, 20, true, 1, 2, 3);
    back.begin(0);
    back.step(0);
    back.step(0);
    Check.due("BACK", back.away(0) + " " + back.step(0) + " " + row(back, 0), "2 1 1 3");
    Ownshelf keeps = with(0, 0, 20, false, 1);
    keeps.begin(0);
    keeps.step(0);
    Check.due("refused", keeps.away(0) + counts(keeps, 0), "-90 1 0 1 0");
    Check.noShelf("shelf -1", () -> x.away(-1));
    Check.noShelf("shelf 4", () -> x.away(4));
  }

  private static void rest() {
    Check.part("28 rest");
    Ownshelf x = with(1, 2, 3);
    Check.noWalker("none held", () -> x.rest(0));
    x.begin(0);
    x.step(0);
    Check.due("rest", x.rest(0), 2);
    Check.due("counts", counts(x, 0), "3 3 0 3 0");
    Check.due("at its end", x.rest(0), 0);
    Check.due("held, and told 3 last", x.away(0) + row(x, 0), "21 2");
    x.fill(1, 20, 0, 1);
    x.begin(1);
    Check.due("all of a full one", x.rest(1) + " " + counts(x, 1), "20 21 20 0 20 0");
    Check.noShelf("shelf -1", () -> x.rest(-1));
    Check.noShelf("shelf 4", () -> x.rest(4));
  }

  private static void isHeld() {
    Check.part("29 isHeld");
    Ownshelf x = with(1);
    Check.due("not", x.isHeld(0), false);
    x.begin(0);
    Check.due("held", x.isHeld(0) + " " + x.isHeld(1), "true false");
    x.add(0, 1);
    Check.due("let go", x.isHeld(0), false);
    Check.noShelf("shelf -1", () -> x.isHeld(-1));
    Check.noShelf("shelf 4", () -> x.isHeld(4));
  }

  private static void thing() {
    Check.part("30 thing");
    Ownshelf x = with(1, 0, 20, true, 5, -1);
    Check.due("things", x.thing(0, 0) + " " + x.thing(0, 1), "5 -1");
    Check.due("counts", counts(x, 0), "0 0 0 2 0");
    Check.noShelf("place -1", () -> x.thing(0, -1));
    Check.noShelf("place 2", () -> x.thing(0, 2));
    Check.noShelf("place 0 of none", () -> x.thing(1, 0));
    x.remove(0, -1);
    Check.noShelf("a place that went", () -> x.thing(0, 1));
    x.fill(2, 20, 0, 1);
    Check.due("the last place", x.thing(2, 19), 9);
    Check.noShelf("place 20", () -> x.thing(2, 20));
    Check.noShelf("shelf -1", () -> x.thing(-1, 0));
    Check.noShelf("shelf 4", () -> x.thing(4, 0));
  }

  private static void count() {
    Check.part("31 count");
    Ownshelf x = with(1, 2, 3, 4, 5);
    x.begin(0);
    x.rest(0);
    x.away(0);
    x.size(0);
    x.isEmpty(0);
    x.size(0);
    Check.due("counts", counts(x, 0) + ", " + counts(x, 1), "6 5 1 5 3, 0 0 0 0 0");
    Check.badArgument("what -1", () -> x.count(0, -1));
    Check.badArgument("what 5", () -> x.count(0, 5));
    Check.noShelf("shelf -1", () -> x.count(-1, 5));
    Check.noShelf("shelf 4", () -> x.count(4, 0));
  }

  private static void ofShelf() {
    Check.part("32 ofShelf");
    Ownshelf x = with(1, 1, 13, false, 1, 2, 3);
    Check.due("traits", traits(x, 0), "3 1 1 13 0");
    Check.due("without a question", counts(x, 0), "0 0 0 3 0");
    Check.badArgument("what -1", () -> x.ofShelf(0, -1));
    Check.badArgument("what 5", () -> x.ofShelf(0, 5));
    Check.noShelf("shelf -1", () -> x.ofShelf(-1, 5));
    Check.noShelf("shelf 4", () -> x.ofShelf(4, 0));
  }

  private static void areRows() {
    Check.part("33 areRows");
    Ownshelf x = with(1, 0, 5, false, -1, 2);
    put(x, 1, -1, 2);
    put(x, 2, 2, -1);
    put(x, 3, -1, 2, 0);
    Check.due("alike, WALK or not", x.areRows(0, 1), true);
    Check.due("other places", x.areRows(0, 2), false);
    Check.due("more", x.areRows(0, 3), false);
    put(x, 1, 8, 7);
    put(x, 2, 8, 7);
    Check.due("the last two alike", x.areRows(1, 2), false);
    x.make(2, 0, 0, 20, true);
    put(x, 2, 3, 2, 8, 7);
    Check.due("all but the first alike", x.areRows(1, 2), false);
    Check.due("fewer", x.areRows(3, 0), false);
    Check.due("itself", x.areRows(3, 3), true);
    Check.due("counts", counts(x, 0), "0 0 0 2 0");
    Check.noShelf("shelf 4", () -> x.areRows(4, 0));
    Check.noShelf("other -1", () -> x.areRows(0, -1));
    Check.noShelf("other 4", () -> x.areRows(0, 4));
  }

  private static void house() {
    Check.part("34 house");
    Ownshelf x = with(1, 2);
    put(x, 3, 7);
    x.begin(0);
    x.begin(1);
    x.begin(3);
    x.step(1);
    x.knock();
    x.knock();
    int[] due = {3, 2, 3, 1, 2};
    for (int what = 0; what < 5; what++) {
      Check.due("house " + what, x.house(what), due[what]);
    }
    x.make(1, 0, 0, 1, true);
    Check.due("held then, and refused ever", x.house(2) + " " + x.house(3), "2 1");
    Check.due("without a question", counts(x, 0), "0 0 0 2 0");
    Check.badArgument("what -1", () -> x.house(-1));
    Check.badArgument("what 5", () -> x.house(5));
  }

  private static void knock() {
    Check.part("35 knock");
    Ownshelf x = new Ownshelf();
    Check.due("knocks", "" + x.knock() + x.knock() + x.knock(), "123");
    Check.due("house 4", x.house(4), 3);
    Check.due("another object", new Ownshelf().knock(), 1);
  }

  private static void isSound() {
    Check.part("36 isSound");
    Ownshelf x = with(1, 1, 4, false, 3, -1, 5);
    put(x, 1, -1, -1, 9, 3);
    x.make(2, 1, 2, 9, true);
    x.fill(3, 20, 0, 3);
    x.begin(3);
    x.step(3);
    Check.due("isSound", x.isSound() && x.isSound(), true);
    Check.due("COUNTS stay", counts(x, 0) + ", " + counts(x, 3), "0 0 0 3 0, 0 1 0 20 0");
    Check.due("rows stay", row(x, 0) + ", " + row(x, 1), "3 -1 5, -1 -1 9 3");
    Check.due("what is held stays", x.isHeld(3) + " " + x.step(3), "true 3");
    Check.due("nothing refused", x.house(3), 0);
    Check.due("a new one", new Ownshelf().isSound(), true);
  }

  private static long digestOfTold(Ownshelf x, String... texts) {
    return unwrapped(x, 1, texts).longValue();
  }

  private static void digest() {
    Check.part("37 digest");
    Ownshelf x = new Ownshelf();
    Check.due("new", x.digest(), digestOfTold(x, "[]", "[]", "[]", "[]"));
    x.make(2, 1, 1, 5, false);
    put(x, 2, -1, 50, 7);
    put(x, 0, 12);
    x.begin(2);
    x.step(2);
    x.away(2);
    x.knock();
    x.size(2);
    Check.due("used", x.digest(), digestOfTold(x, "[12]", "[]", "[7, 50, null]", "[]"));
    Check.due("COUNTS stay", counts(x, 2), "0 1 0 3 1");
    Check.due("again", x.digest(), x.digest());
    Check.due("what is held stays", x.step(2), 50);
  }

  private static Ownshelf withFullShelves() {
    Ownshelf x = new Ownshelf();
    for (int shelf = 0; shelf < 2; shelf++) {
      for (int k = 0; k < 20; k++) {
        x.add(shelf, shelf == 0 ? k : 9);
      }
    }
    return x;
  }

  /** With 20 things a loop steps 20 times, and asks once more. */
  private static void walksWhole(String call, Use made) {
    Ownshelf x = withFullShelves();
    made.of(x);
    Check.due(call, x.count(0, 0) + " " + x.count(0, 1), "21 20");
  }

  private static void fullShelves() {
    Check.part("full shelves");
    walksWhole("contains", x -> x.contains(0, 50));
    walksWhole("remove", x -> x.remove(0, 50));
    walksWhole("clear", x -> x.clear(0));
    walksWhole("addAll", x -> x.addAll(2, 0));
    walksWhole("removeAll", x -> x.removeAll(0, 1));
    walksWhole("retainAll", x -> x.retainAll(0, 1));
    walksWhole("removeRow", x -> x.removeRow(0, 1, 2, 3));
    walksWhole("text", x -> x.text(0));
    walksWhole("sum", x -> x.sum(0));
    Ownshelf x = withFullShelves();
    Check.due("containsAll", x.containsAll(0, 1) + " " + counts(x, 1), "true 21 20 0 20 0");
    x.make(2, 0, 1, 20, true);
    x.addAll(2, 0);
    Check.due("UNLIKE, none ALIKE in 20", x.add(2, 50) + " " + x.add(2, 19), "-9 0");
    Check.due("areRows", x.areRows(0, 2), true);
    Check.due("isSound", x.isSound(), true);
  }

  /** Whether shelf 0 (1, 2, 3, a walker held) still holds it after a call with shelf 1 (2). */
  private static void stays(String call, boolean isToStay, Use made) {
    Ownshelf x = with(1, 2, 3);
    put(x, 1, 2);
    x.begin(0);
    x.begin(1);
    made.of(x);
    Check.due("held after " + call, x.isHeld(0), isToStay);
    Check.due("held of the other after " + call, x.isHeld(1), true);
  }

  private static void stepAway(Ownshelf x) {
    x.step(0);
    Check.due("away", x.away(0), 2);
  }

  private static void heldWalkers() {
    Check.part("walkers held and let go");
    stays("make", false, x -> x.make(0, 0, 0, 20, true));
    stays("add", false, x -> x.add(0, 1));
    stays("fill", false, x -> x.fill(0, 1, 0, 0));
    stays("fill of none", true, x -> x.fill(0, 0, 0, 0));
    stays("remove", false, x -> x.remove(0, 3));
    stays("remove of none", true, x -> x.remove(0, 4));
    stays("clear", false, x -> x.clear(0));
    stays("addAll", false, x -> x.addAll(0, 1));
    stays("addAll of none", true, x -> x.addAll(0, 2));
    stays("removeAll", false, x -> x.removeAll(0, 1));
    stays("removeAll of none", true, x -> x.removeAll(0, 2));
    stays("retainAll", false, x -> x.retainAll(0, 1));
    stays("retainAll of itself", true, x -> x.retainAll(0, 0));
    stays("addRow", false, x -> x.addRow(0, 1, 1, 1));
    stays("removeRow", false, x -> x.removeRow(0, 1, 1, 1));
    stays("removeRow of none", true, x -> x.removeRow(0, 5, 5, 5));
    stays("retainRow", false, x -> x.retainRow(0, 1, 1, 1));
    stays("retainRow of all", true, x -> x.retainRow(0, 1, 2, 3));
    stays("removeNone", true, x -> x.removeNone(0, false));
    stays("walking", true, x -> x.text(0));
    stays("asking", true, x -> x.containsAll(0, 0));
    stays("its own step", true, x -> x.step(0));
    stays("its own away", true, PromisesTest::stepAway);
    stays("digest", true, x -> x.digest());
    Check.part("walkers that refusals leave");
    Ownshelf full = with(0, 0, 1, false, 1);
    full.begin(0);
    full.add(0, 2);
    full.addRow(0, 1, 2, 3);
    full.fill(0, 2, 0, 0);
    full.clear(0);
    full.remove(0, 1);
    Check.due("held still", full.isHeld(0), true);
    Ownshelf some = with(0, 0, 2, true, 1);
    some.begin(0);
    Check.due("refused behind one added", some.addRow(0, 1, 2, 3), REFUSED);
    Check.due("let go", some.isHeld(0), false);
  }

  private static void throwingChangesNothing() {
    Check.part("what throws changes nothing");
    Ownshelf x = with(1, 2);
    x.begin(0);
    x.step(0);
    long before = x.digest();
    Check.badArgument("add", () -> x.add(0, 100));
    Check.badArgument("addRow", () -> x.addRow(0, 1, 2, 100));
    Check.badArgument("removeRow", () -> x.removeRow(0, 1, 2, 100));
    Check.badArgument("addAll", () -> x.addAll(0, 0));
    Check.badArgument("make", () -> x.make(0, 0, 0, 21, true));
    Check.badArgument("fill", () -> x.fill(0, 1, 1, 100));
    Check.noShelf("addAll", () -> x.addAll(0, 4));
    Check.noShelf("removeAll", () -> x.removeAll(0, 4));
    Check.noShelf("retainAll", () -> x.retainAll(0, 4));
    Check.noShelf("areText", () -> x.areText(0, 4));
    Check.noShelf("containsAll", () -> x.containsAll(0, 4));
    Check.noWalker("ask", () -> x.ask(1));
    Check.noWalker("step", () -> x.step(1));
    Check.noWalker("away", () -> x.away(1));
    Check.noWalker("rest", () -> x.rest(1));
    Check.due("digest", x.digest(), before);
    Check.due("the walker goes on", x.step(0), 2);
  }
}
