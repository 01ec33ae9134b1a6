import java.nio.file.Path;

/**
 * What the document says of walkers, sentence by sentence: the boundary cases that each one names.
 * A test quotes the words that it tests.
 */
public final class WalkerEdgesTest extends Shelves {
  private static Document document;

  public static void main(String[] arguments) throws Exception {
    document = new Document(Path.of(arguments[0]));
    walkers();
    walkersHeld();
    document.nothingIsLeft("2. Walkers");
    Check.end("WalkerEdgesTest");
  }

  private static void walkers() {
    walkerBegins();
    walkerIsAsked();
    walkerSteps();
    walkerPutsAway();
    walkerPutsAllAway();
    awayRefusesOfAKeeper();
    awayRefusesAheadOfAll();
    awayRefusesTwice();
    refusalsCountNothing();
    countsAtFirst();
    loopsBeginAnew();
  }

  private static void walkerBegins() {
    document.quote("2. Walkers",
        "A WALKER of a SHELF begins ahead of the first THING of its WALK.");
    for (int many = 1; many <= MOST; many++) {
      Ownshelf x = with(rising(30, many));
      x.begin(0);
      Check.due("FORTH, " + many, x.step(0), 30);
      Ownshelf back = withBack(rising(30, many));
      back.begin(0);
      Check.due("BACK, " + many, back.step(0), 29 + many);
    }
    for (int walk = FORTH; walk <= BACK; walk++) {
      Ownshelf x = with(walk, ANY, MOST, true);
      x.begin(0);
      Check.due("empty", x.ask(0) + " " + x.step(0), "0 -9");
    }
  }

  private static void walkerIsAsked() {
    document.quote("2. Walkers", "To ASK it: whether there is a next one (ASKS is 1 more).");
    for (int walk = FORTH; walk <= BACK; walk++) {
      Ownshelf x = with(walk, ANY, MOST, true, 5, 5);
      x.begin(0);
      Check.due("ahead of both", x.ask(0) + " " + x.ask(0), "1 1");
      x.step(0);
      Check.due("ahead of the last", x.ask(0), 1);
      x.step(0);
      Check.due("at the end", x.ask(0) + " " + x.ask(0), "0 0");
      Check.due("counts", counts(x, 0), "5 2 0 2 0");
      x.make(1, walk, ANY, MOST, true);
      x.begin(1);
      Check.due("empty", x.ask(1) + " " + counts(x, 1), "0 1 0 0 0 0");
    }
  }

  private static void walkerSteps() {
    document.quote("2. Walkers",
        "To STEP: it tells the next one, and stands behind it (STEPS is 1 more).");
    Ownshelf x = with(rising(30, MOST));
    Ownshelf back = withBack(rising(30, MOST));
    x.begin(0);
    back.begin(0);
    for (int k = 0; k < MOST; k++) {
      Check.due("FORTH", x.step(0) + " " + x.count(0, 1), 30 + k + " " + (k + 1));
      Check.due("BACK", back.step(0) + " " + back.count(0, 1), 49 - k + " " + (k + 1));
    }
    Check.due("behind the last", x.step(0) + " " + x.step(0), "-9 -9");
    Check.due("behind the first place", back.step(0) + " " + back.step(0), "-9 -9");
    Check.due("told the last", x.away(0) + " " + x.thing(0, 18), "19 48");
    Check.due("told the first place", back.away(0) + " " + back.thing(0, 0), "19 31");
  }

  /** Begins, STEPS so often, then AWAY: the row that is left, and what the WALKER tells then. */
  private static String awayBehind(Ownshelf x, int steps) {
    x.begin(0);
    for (int k = 0; k < steps; k++) {
      x.step(0);
    }
    StringBuilder text = new StringBuilder();
    text.append(x.away(0)).append(": ").append(row(x, 0)).append(" then");
    for (int k = 0; k < MOST && x.ask(0) == 1; k++) {
      text.append(' ').append(x.step(0));
    }
    return text.append(" AWAYS ").append(x.count(0, 2)).toString();
  }

  private static void walkerPutsAway() {
    document.quote("2. Walkers", "AWAY: the THING that it told last goes (those behind it move up;"
        + " the WALKER goes on with the one that would have been next; AWAYS is 1 more);");
    Check.due("first", awayBehind(with(1, 2, 3), 1), "2: 2 3 then 2 3 AWAYS 1");
    Check.due("middle", awayBehind(with(1, 2, 3), 2), "2: 1 3 then 3 AWAYS 1");
    Check.due("last", awayBehind(with(1, 2, 3), 3), "2: 1 2 then AWAYS 1");
    Check.due("behind its end", awayBehind(with(1, 2, 3), 4), "2: 1 2 then AWAYS 1");
    Check.due("BACK, first", awayBehind(withBack(1, 2, 3), 1), "2: 1 2 then 2 1 AWAYS 1");
    Check.due("BACK, middle", awayBehind(withBack(1, 2, 3), 2), "2: 1 3 then 1 AWAYS 1");
    Check.due("BACK, last", awayBehind(withBack(1, 2, 3), 3), "2: 2 3 then AWAYS 1");
    Check.due("the only one", awayBehind(with(7), 1), "0:  then AWAYS 1");
    Check.due("BACK, the only one", awayBehind(withBack(7), 1), "0:  then AWAYS 1");
    Check.due("two ALIKE, the second", awayBehind(with(7, 7, 8), 2), "2: 7 8 then 8 AWAYS 1");
    Check.due("NOTHING", awayBehind(with(-1, 8), 1), "1: 8 then 8 AWAYS 1");
  }

  private static void walkerPutsAllAway() {
    Check.part("2. Walkers: AWAY of 20, one behind the other");
    Ownshelf x = with(rising(30, MOST));
    Ownshelf back = withBack(rising(30, MOST));
    x.begin(0);
    back.begin(0);
    for (int k = 0; k < MOST; k++) {
      Check.due("FORTH", x.step(0) + " " + x.away(0), 30 + k + " " + (19 - k));
      Check.due("BACK", back.step(0) + " " + back.away(0), 49 - k + " " + (19 - k));
    }
    Check.due("none left", counts(x, 0) + row(x, 0), "0 20 20 20 0");
    Check.due("BACK, none left", counts(back, 0) + row(back, 0), "0 20 20 20 0");
    Check.due("at its end", x.ask(0) + " " + back.ask(0), "0 0");
  }

  private static void awayRefusesOfAKeeper() {
    document.quote("2. Walkers", " that refuses, if the SHELF does not GIVE AWAY,");
    for (int walk = FORTH; walk <= BACK; walk++) {
      Ownshelf x = with(walk, ANY, MOST, false, 4, 5, 4);
      x.begin(0);
      x.step(0);
      Check.due("told one", x.away(0), REFUSED);
      Check.due("goes on", x.step(0) + " " + x.away(0), "5 -9");
      Check.due("all stay", row(x, 0), "4 5 4");
      Check.due("AWAYS, house 3", x.count(0, 2) + " " + x.house(3), "0 2");
    }
  }

  private static void awayRefusesAheadOfAll() {
    document.quote("2. Walkers", " if it told none yet,");
    for (int walk = FORTH; walk <= BACK; walk++) {
      Ownshelf x = with(walk, ANY, MOST, true, 4, 5, 4);
      x.begin(0);
      Check.due("new", x.away(0), REFUSED);
      x.ask(0);
      Check.due("asked", x.away(0), REFUSED);
      x.step(0);
      x.begin(0);
      Check.due("another told one", x.away(0), REFUSED);
      Check.due("goes on", x.step(0), 4);
      x.make(1, walk, ANY, MOST, true);
      x.begin(1);
      Check.due("empty", x.step(1) + " " + x.away(1), "-9 -9");
      Check.due("all stay", row(x, 0) + ", AWAYS " + x.count(0, 2), "4 5 4, AWAYS 0");
    }
  }

  private static void awayRefusesTwice() {
    document.quote("2. Walkers", " or if that one went already.");
    for (int walk = FORTH; walk <= BACK; walk++) {
      Ownshelf x = with(walk, ANY, MOST, true, 4, 5, 4);
      x.begin(0);
      x.step(0);
      Check.due("twice", x.away(0) + " " + x.away(0) + " " + x.away(0), "2 -9 -9");
      x.ask(0);
      Check.due("asked", x.away(0), REFUSED);
      Check.due("behind the next one", x.step(0) + " " + x.away(0) + " " + x.away(0), "5 1 -9");
      Check.due("the last one", x.step(0) + " " + x.away(0) + " " + x.away(0), "4 0 -9");
      Check.due("at the end", x.step(0) + " " + x.away(0), "-9 -9");
      Check.due("AWAYS", walked(x, 0), "1 3 3");
    }
  }

  private static void refusalsCountNothing() {
    document.quote("2. Walkers", "What refuses counts nothing.");
    Ownshelf x = with(FORTH, ANY, 1, false, 3);
    x.begin(0);
    x.away(0);
    Check.due("away, told none", counts(x, 0), "0 0 0 1 0");
    x.step(0);
    x.away(0);
    Check.due("away, not given", counts(x, 0), "0 1 0 1 0");
    x.step(0);
    Check.due("step", counts(x, 0), "0 1 0 1 0");
    x.add(0, 4);
    x.addRow(0, 4, 5, 6);
    x.fill(0, 1, 4, 0);
    Check.due("add", counts(x, 0), "0 1 0 1 0");
    x.remove(0, 3);
    Check.due("remove's AWAY", counts(x, 0), "1 2 0 1 0");
    x.removeNone(0, false);
    x.removeNone(0, true);
    Check.due("removeNone", counts(x, 0), "1 2 0 1 0");
    Ownshelf gone = with(3);
    gone.begin(0);
    gone.step(0);
    gone.away(0);
    gone.away(0);
    Check.due("away, went already", counts(gone, 0), "0 1 1 1 0");
  }

  private static void countsAtFirst() {
    document.quote("2. Walkers", "COUNTS of a SHELF, all 0 as it is made: ASKS, STEPS, AWAYS,"
        + " ADDS, SIZES (how often it was asked how many THINGS it has).");
    Ownshelf x = new Ownshelf();
    for (int shelf = 0; shelf < 4; shelf++) {
      Check.due("new", counts(x, shelf), "0 0 0 0 0");
    }
    for (int shelf = 0; shelf < 4; shelf++) {
      put(x, shelf, 1, 2);
      x.remove(shelf, 1);
      x.size(shelf);
      x.isEmpty(shelf);
    }
    x.make(2, BACK, UNLIKE, 9, false);
    x.make(3, FORTH, ANY, MOST, true);
    Check.due("made", counts(x, 2) + ", " + counts(x, 3), "0 0 0 0 0, 0 0 0 0 0");
    Check.due("others", counts(x, 0) + ", " + counts(x, 1), "1 1 1 2 2, 1 1 1 2 2");
    x.ofShelf(0, 0);
    x.house(0);
    x.house(1);
    x.areRows(0, 1);
    x.text(0);
    x.clear(0);
    Check.due("SIZES are questions alone", x.count(0, 4), 2);
  }

  private static void loopsBeginAnew() {
    document.quote("2. Walkers", "Each loop of section 3 begins with a new WALKER of each SHELF"
        + " through which it goes.");
    Ownshelf x = with(1, 2, 3);
    put(x, 1, 2, 9, 2);
    Check.due("over at the second", x.contains(0, 2) + " " + walked(x, 0), "true 2 2 0");
    Check.due("again", x.contains(0, 2) + " " + walked(x, 0), "true 4 4 0");
    Check.due("the other, too", x.containsAll(0, 1) + " " + walked(x, 1), "false 2 2 0");
    Check.due("again, the other", x.containsAll(0, 1) + " " + walked(x, 1), "false 4 4 0");
    Check.due("behind its end", x.text(0) + x.text(0), "[1, 2, 3][1, 2, 3]");
    x.begin(0);
    x.step(0);
    x.step(0);
    Check.due("not the one HELD", x.sum(0) + " " + x.text(0) + " " + x.contains(0, 1),
        "6 [1, 2, 3] true");
    Check.due("that one stands still", x.step(0), 3);
    Check.due("two of one SHELF", x.containsAll(0, 0) + " " + x.retainAll(0, 0), "true 0");
  }

  // Walkers that are HELD

  private static void walkersHeld() {
    oneHeldEach();
    letGoByMaking();
    letGoByAdding();
    letGoByGoing();
    leftByItself();
    leftByCallsThatChangeNone();
    leftByRefusals();
    leftByQuestions();
    leftByOtherShelves();
  }

  private static void oneHeldEach() {
    document.quote("2. Walkers", "Each SHELF can have one HELD WALKER (none at first).");
    Ownshelf x = new Ownshelf();
    for (int shelf = 0; shelf < 4; shelf++) {
      Check.due("none at first", x.isHeld(shelf), false);
    }
    Check.due("no WALKERS", x.house(2), 0);
    for (int shelf = 0; shelf < 4; shelf++) {
      put(x, shelf, shelf, 9);
      Check.due("begin", x.begin(shelf) + " " + x.house(2), "0 " + (shelf + 1));
    }
    Check.due("one each", x.begin(3) + " " + x.house(2), "1 4");
    Check.due("by itself", x.step(1) + " " + x.step(3) + " " + x.step(1), "1 3 9");
    Check.due("by itself, the others", x.step(0) + " " + x.step(3), "0 9");
  }

  /** An object that can add and let go: shelf 0 has 1 2 3, its WALKER told 1; all are HELD. */
  private static Ownshelf held() {
    Ownshelf x = with(FORTH, UNLIKE, 5, true, 1, 2, 3);
    put(x, 1, 2, 4);
    put(x, 3, 1, 2, 3);
    for (int shelf = 0; shelf < 4; shelf++) {
      x.begin(shelf);
    }
    x.step(0);
    return x;
  }

  private static void letsGo(String call, Use use) {
    Ownshelf x = held();
    use.of(x);
    Check.due("held after " + call, x.isHeld(0), false);
    Check.noWalker("ask after " + call, () -> x.ask(0));
    Check.due("the others after " + call, x.house(2), 3);
  }

  private static void letGoByMaking() {
    document.quote("2. Walkers", "It is let go, as the SHELF is made anew,");
    letsGo("make", x -> x.make(0, BACK, ANY, 9, true));
    letsGo("make as it was", x -> x.make(0, FORTH, UNLIKE, 5, true));
    Ownshelf x = new Ownshelf();
    x.begin(0);
    x.make(0, FORTH, ANY, MOST, true);
    Check.due("an empty one", x.isHeld(0) + " " + x.begin(0), "false 0");
  }

  private static void letGoByAdding() {
    document.quote("2. Walkers", " or as a THING is added to it");
    letsGo("add", x -> x.add(0, 4));
    letsGo("fill", x -> x.fill(0, 1, 4, 0));
    letsGo("fill, refused then", x -> x.fill(0, 5, 4, 1));
    letsGo("addRow, the last alone", x -> x.addRow(0, 1, 1, 4));
    letsGo("addRow, refused then", x -> x.addRow(0, 4, 5, 6));
    letsGo("addAll, the last alone", x -> x.addAll(0, 1));
    Ownshelf x = with(FORTH, ANY, 1, true);
    put(x, 1, 5, 6);
    x.begin(0);
    Check.due("addAll, refused then", x.addAll(0, 1) + " " + x.isHeld(0), "-9 false");
    x.make(2, FORTH, ANY, MOST, true);
    x.begin(2);
    x.ask(2);
    x.add(2, 1);
    Check.due("the first one", x.isHeld(2), false);
  }

  private static void letGoByGoing() {
    document.quote("2. Walkers", " or goes from it by anything but that WALKER itself;");
    letsGo("remove of what it told", x -> x.remove(0, 1));
    letsGo("remove of what is behind it", x -> x.remove(0, 3));
    letsGo("clear", x -> x.clear(0));
    letsGo("removeAll", x -> x.removeAll(0, 1));
    letsGo("removeAll of itself", x -> x.removeAll(0, 0));
    letsGo("retainAll", x -> x.retainAll(0, 1));
    letsGo("retainAll of none", x -> x.retainAll(0, 2));
    letsGo("removeRow", x -> x.removeRow(0, 9, 9, 3));
    letsGo("retainRow", x -> x.retainRow(0, 1, 2, 2));
    Ownshelf x = with(5);
    x.begin(0);
    x.rest(0);
    x.remove(0, 5);
    Check.due("the only one, at the end", x.isHeld(0), false);
  }

  private static void leftByItself() {
    document.quote("2. Walkers", "by anything but that WALKER itself");
    Ownshelf x = held();
    Check.due("away", x.away(0) + " " + x.isHeld(0), "2 true");
    Check.due("on, and away", x.step(0) + " " + x.away(0) + " " + x.isHeld(0), "2 1 true");
    Check.due("the last", x.step(0) + " " + x.away(0) + " " + x.isHeld(0), "3 0 true");
    Check.due("all are held", x.house(2), 4);
  }

  /** Held and where it stood: what it told goes, and it goes on with the next one. */
  private static void leaves(String call, Use use) {
    Ownshelf x = held();
    use.of(x);
    Check.due("held after " + call, x.isHeld(0), true);
    Check.due("where it stands after " + call, x.away(0) + " " + x.step(0), "2 2");
  }

  private static void leftByCallsThatChangeNone() {
    document.quote("2. Walkers", "whatever adds none and lets none go leaves it.");
    leaves("add of one ALIKE", x -> x.add(0, 3));
    leaves("fill of none", x -> x.fill(0, 0, 4, 0));
    leaves("fill of ALIKE ones", x -> x.fill(0, 3, 1, 1));
    leaves("addAll of none", x -> x.addAll(0, 2));
    leaves("addAll of ALIKE ones", x -> x.addAll(0, 3));
    leaves("addRow of ALIKE ones", x -> x.addRow(0, 3, 2, 1));
    leaves("remove of none", x -> x.remove(0, 4));
    leaves("removeAll of an empty one", x -> x.removeAll(0, 2));
    leaves("removeRow of none", x -> x.removeRow(0, 4, -1, 0));
    leaves("retainAll of the same row", x -> x.retainAll(0, 3));
    leaves("retainAll of itself", x -> x.retainAll(0, 0));
    leaves("retainRow of all", x -> x.retainRow(0, 3, 1, 2));
    Ownshelf x = new Ownshelf();
    x.begin(0);
    Check.due("clear of none", x.clear(0) + " " + x.isHeld(0), "0 true");
    Check.due("removeAll of none", x.removeAll(0, 0) + " " + x.isHeld(0), "0 true");
  }

  private static void leftByRefusals() {
    Check.part("2. Walkers: whatever adds none and lets none go, because it refuses");
    Ownshelf x = with(FORTH, ANY, 3, false, 1, 2, 3);
    x.begin(0);
    x.step(0);
    int[] told = {
      x.add(0, 4), x.addRow(0, 1, 2, 3), x.remove(0, 2), x.clear(0), x.removeAll(0, 0),
      x.retainAll(0, 1), x.removeRow(0, 1, 2, 3), x.retainRow(0, 4, 4, 4), x.removeNone(0, true),
      x.removeNone(0, false), x.away(0)
    };
    for (int k = 0; k < told.length; k++) {
      Check.due("refusal " + k, told[k], REFUSED);
    }
    Check.due("fill", x.fill(0, 1, 1, 1), 0);
    Check.due("held still", x.isHeld(0) + " " + x.step(0) + " " + x.step(0), "true 2 3");
    Check.due("its own", x.step(0) + " " + x.isHeld(0), "-9 true");
    Ownshelf never = with(FORTH, NEVER, 3, true);
    never.begin(0);
    Check.due("NEVER", never.add(0, 1) + " " + never.isHeld(0), "-9 true");
  }

  private static void leftByQuestions() {
    Check.part("2. Walkers: whatever asks leaves it");
    leaves("contains", x -> x.contains(0, 3));
    leaves("containsAll", x -> x.containsAll(0, 3));
    leaves("containsAll of itself", x -> x.containsAll(0, 0));
    leaves("containsRow", x -> x.containsRow(0, 1, 2, 3));
    leaves("isEmpty", x -> x.isEmpty(0));
    leaves("size", x -> x.size(0));
    leaves("text", x -> x.text(0));
    leaves("areText", x -> x.areText(0, 0));
    leaves("sum", x -> x.sum(0));
    leaves("greatest", x -> x.greatest(0));
    leaves("order", x -> x.order(0));
    leaves("ask", x -> x.ask(0));
    leaves("isHeld", x -> x.isHeld(0));
    leaves("house", Shelves::house);
    leaves("count", x -> counts(x, 0));
    leaves("ofShelf", x -> traits(x, 0));
    leaves("thing", x -> row(x, 0));
    leaves("areRows", x -> x.areRows(0, 3));
    leaves("knock", Ownshelf::knock);
    leaves("isSound", Ownshelf::isSound);
    leaves("digest", Ownshelf::digest);
    Ownshelf x = held();
    Check.due("rest", x.rest(0) + " " + x.isHeld(0) + " " + x.away(0), "2 true 2");
  }

  private static void leftByOtherShelves() {
    Check.part("2. Walkers: what is done with other shelves leaves it");
    leaves("make", x -> x.make(1, FORTH, ANY, MOST, true));
    leaves("add", x -> x.add(1, 5));
    leaves("remove", x -> x.remove(1, 2));
    leaves("clear", x -> x.clear(3));
    leaves("addAll, of its THINGS", x -> x.addAll(1, 0));
    leaves("removeAll, of its THINGS", x -> x.removeAll(3, 0));
    leaves("retainAll, of its THINGS", x -> x.retainAll(1, 0));
    leaves("containsAll, of its THINGS", x -> x.containsAll(1, 0));
    leaves("begin", x -> x.begin(1));
    leaves("another's step and away", x -> {
      x.step(3);
      x.away(3);
    });
  }
}
