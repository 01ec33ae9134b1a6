/**
 * Four shelves with things in a row; nearly all that a shelf is asked is answered by walking
 * through it, and each shelf counts what is done with its walkers. The words of the document
 * (shared/DOC.md) are kept as names.
 */
public final class Ownshelf {
  private static final int SHELVES = 4;
  private static final int MOST_THINGS = 20;
  private static final int GREATEST_THING = 99;
  private static final int NONE = -1;
  private static final int REFUSED = -9;

  private static final int FORTH = 0;
  private static final int BACK = 1;

  private static final int ANY = 0;
  private static final int UNLIKE = 1;
  private static final int NEVER = 2;

  private static final int ASKS = 0;
  private static final int STEPS = 1;
  private static final int AWAYS = 2;
  private static final int ADDS = 3;
  private static final int SIZES = 4;
  private static final int COUNTS = 5;

  private static final boolean HAD = true;
  private static final boolean NOT_HAD = false;

  private static final int TRAITS = 5;
  private static final int HOUSE_NUMBERS = 5;

  private final Shelf[] shelves = new Shelf[SHELVES];
  private int refusals = 0;
  private int knocks = 0;

  // Scratch, made once and used by every call again: nothing in it outlives a call.
  private final Shelf toldRow = new Shelf();
  private final Shelf copy = new Shelf();
  private final Shelf otherCopy = new Shelf();
  private final StringBuilder signs = new StringBuilder();
  private final StringBuilder otherSigns = new StringBuilder();

  public Ownshelf() {
    for (int k = 0; k < SHELVES; k++) {
      shelves[k] = new Shelf();
    }
  }

  public int make(int shelf, int walk, int rule, int limit, boolean isGiving)
      throws IndexOutOfBoundsException, IllegalArgumentException {
    Shelf made = shelfAt(shelf);
    checkRange(walk, FORTH, BACK);
    checkRange(rule, ANY, NEVER);
    checkRange(limit, 1, MOST_THINGS);
    int had = made.many;
    made.makeAnew(walk, rule, limit, isGiving);
    return had;
  }

  public int add(int shelf, int thing) throws IndexOutOfBoundsException, IllegalArgumentException {
    Shelf asked = shelfAt(shelf);
    checkThing(thing);
    return told(asked.put(thing));
  }

  public int fill(int shelf, int many, int from, int by)
      throws IndexOutOfBoundsException, IllegalArgumentException {
    Shelf filled = shelfAt(shelf);
    checkRange(many, 0, MOST_THINGS);
    checkRange(from, 0, GREATEST_THING);
    checkRange(by, 0, GREATEST_THING);
    int added = 0;
    for (int k = 0; k < many; k++) {
      int answer = filled.put((from + k * by) % 10);
      if (answer == REFUSED) {
        return added;
      }
      added += answer;
    }
    return added;
  }

  public int remove(int shelf, int thing)
      throws IndexOutOfBoundsException, IllegalArgumentException {
    Shelf asked = shelfAt(shelf);
    checkThing(thing);
    return told(asked.takeAlike(thing));
  }

  public int clear(int shelf) throws IndexOutOfBoundsException {
    return told(shelfAt(shelf).takeEach());
  }

  public int addAll(int shelf, int other)
      throws IndexOutOfBoundsException, IllegalArgumentException {
    Shelf asked = shelfAt(shelf);
    Shelf source = shelfAt(other);
    if (asked == source) {
      throw new IllegalArgumentException("a shelf can't be added to itself");
    }
    return told(asked.putAllOf(source));
  }

  public int removeAll(int shelf, int other) throws IndexOutOfBoundsException {
    Shelf asked = shelfAt(shelf);
    return told(asked.takeWhat(HAD, shelfAt(other)));
  }

  public int retainAll(int shelf, int other) throws IndexOutOfBoundsException {
    Shelf asked = shelfAt(shelf);
    return told(asked.takeWhat(NOT_HAD, shelfAt(other)));
  }

  public int addRow(int shelf, int a, int b, int c)
      throws IndexOutOfBoundsException, IllegalArgumentException {
    Shelf asked = shelfAt(shelf);
    return told(asked.putAllOf(rowOf(a, b, c)));
  }

  public int removeRow(int shelf, int a, int b, int c)
      throws IndexOutOfBoundsException, IllegalArgumentException {
    Shelf asked = shelfAt(shelf);
    return told(asked.takeWhat(HAD, rowOf(a, b, c)));
  }

  public int retainRow(int shelf, int a, int b, int c)
      throws IndexOutOfBoundsException, IllegalArgumentException {
    Shelf asked = shelfAt(shelf);
    return told(asked.takeWhat(NOT_HAD, rowOf(a, b, c)));
  }

  public int removeNone(int shelf, boolean isRetaining) throws IndexOutOfBoundsException {
    shelfAt(shelf);
    return told(REFUSED);
  }

  public boolean contains(int shelf, int thing)
      throws IndexOutOfBoundsException, IllegalArgumentException {
    Shelf asked = shelfAt(shelf);
    checkThing(thing);
    return asked.has(thing);
  }

  public boolean containsAll(int shelf, int other) throws IndexOutOfBoundsException {
    Shelf asked = shelfAt(shelf);
    return asked.hasAllOf(shelfAt(other));
  }

  public boolean containsRow(int shelf, int a, int b, int c)
      throws IndexOutOfBoundsException, IllegalArgumentException {
    Shelf asked = shelfAt(shelf);
    return asked.hasAllOf(rowOf(a, b, c));
  }

  public boolean isEmpty(int shelf) throws IndexOutOfBoundsException {
    return shelfAt(shelf).tellHowMany() == 0;
  }

  public int size(int shelf) throws IndexOutOfBoundsException {
    return shelfAt(shelf).tellHowMany();
  }

  public String text(int shelf) throws IndexOutOfBoundsException {
    shelfAt(shelf).writeText(signs);
    return signs.toString();
  }

  public boolean areText(int shelf, int other) throws IndexOutOfBoundsException {
    Shelf first = shelfAt(shelf);
    Shelf second = shelfAt(other);
    return haveSameText(first, second);
  }

  public int sum(int shelf) throws IndexOutOfBoundsException {
    return shelfAt(shelf).tellEach(Hearer.ADDER);
  }

  public int greatest(int shelf) throws IndexOutOfBoundsException {
    return shelfAt(shelf).tellEach(Hearer.KEEPER);
  }

  public int order(int shelf) throws IndexOutOfBoundsException {
    return shelfAt(shelf).tellEach(Hearer.WRITER);
  }

  public int begin(int shelf) throws IndexOutOfBoundsException {
    return shelfAt(shelf).hold() ? 1 : 0;
  }

  public int ask(int shelf) throws IndexOutOfBoundsException, IllegalStateException {
    Shelf walked = holdingShelfAt(shelf);
    return walked.askWalker(walked.held) ? 1 : 0;
  }

  public int step(int shelf) throws IndexOutOfBoundsException, IllegalStateException {
    Shelf walked = holdingShelfAt(shelf);
    return told(walked.stepWalker(walked.held));
  }

  public int away(int shelf) throws IndexOutOfBoundsException, IllegalStateException {
    Shelf walked = holdingShelfAt(shelf);
    return told(walked.takeByWalker(walked.held) ? walked.many : REFUSED);
  }

  public int rest(int shelf) throws IndexOutOfBoundsException, IllegalStateException {
    Shelf walked = holdingShelfAt(shelf);
    return walked.tellRest(walked.held, Hearer.COUNTER);
  }

  public boolean isHeld(int shelf) throws IndexOutOfBoundsException {
    return shelfAt(shelf).isHolding;
  }

  public int thing(int shelf, int place) throws IndexOutOfBoundsException {
    Shelf asked = shelfAt(shelf);
    if (!asked.isPlace(place)) {
      throw new IndexOutOfBoundsException("no such place");
    }
    return asked.row[place];
  }

  public int count(int shelf, int what) throws IndexOutOfBoundsException, IllegalArgumentException {
    Shelf asked = shelfAt(shelf);
    checkRange(what, 0, COUNTS - 1);
    return asked.counts[what];
  }

  public int ofShelf(int shelf, int what)
      throws IndexOutOfBoundsException, IllegalArgumentException {
    Shelf asked = shelfAt(shelf);
    checkRange(what, 0, TRAITS - 1);
    return asked.trait(what);
  }

  public boolean areRows(int shelf, int other) throws IndexOutOfBoundsException {
    Shelf asked = shelfAt(shelf);
    return asked.hasSameRow(shelfAt(other));
  }

  public int house(int what) throws IllegalArgumentException {
    checkRange(what, 0, HOUSE_NUMBERS - 1);
    return houseNumber(what);
  }

  public int knock() {
    knocks++;
    return knocks;
  }

  public boolean isSound() {
    return areShelvesSound();
  }

  public long digest() {
    long d = 7786;
    for (int what = 0; what < HOUSE_NUMBERS; what++) {
      d = d * 31 + houseNumber(what);
    }
    for (Shelf shelf : shelves) {
      d = digestShelf(d, shelf);
    }
    return d * 31 + (areShelvesSound() ? 1 : 0);
  }

  private Shelf shelfAt(int shelf) {
    if (shelf < 0 || shelf >= SHELVES) {
      throw new IndexOutOfBoundsException("no such shelf");
    }
    return shelves[shelf];
  }

  private Shelf holdingShelfAt(int shelf) {
    Shelf walked = shelfAt(shelf);
    if (!walked.isHolding) {
      throw new IllegalStateException("no walker is held");
    }
    return walked;
  }

  private static void checkRange(int number, int least, int most) {
    if (number < least || number > most) {
      throw new IllegalArgumentException("a number is out of its range");
    }
  }

  private static void checkThing(int thing) {
    checkRange(thing, NONE, GREATEST_THING);
  }

  /** A told row is a shelf of nobody: all loops go through it alike, its counts are never seen. */
  private Shelf rowOf(int a, int b, int c) {
    checkThing(a);
    checkThing(b);
    checkThing(c);
    toldRow.makeAnew(FORTH, ANY, MOST_THINGS, true);
    toldRow.put(a);
    toldRow.put(b);
    toldRow.put(c);
    return toldRow;
  }

  /** Every answer that may be REFUSED goes through here, so that house(3) counts it. */
  private int told(int answer) {
    if (answer == REFUSED) {
      refusals++;
    }
    return answer;
  }

  private boolean haveSameText(Shelf first, Shelf second) {
    first.writeText(signs);
    second.writeText(otherSigns);
    if (signs.length() != otherSigns.length()) {
      return false;
    }
    for (int k = 0; k < signs.length(); k++) {
      if (signs.charAt(k) != otherSigns.charAt(k)) {
        return false;
      }
    }
    return true;
  }

  private int houseNumber(int what) {
    switch (what) {
      case 0:
        return countThings();
      case 1:
        return countEmptyShelves();
      case 2:
        return countHeldWalkers();
      case 3:
        return refusals;
      default:
        return knocks;
    }
  }

  private int countThings() {
    int things = 0;
    for (Shelf shelf : shelves) {
      things += shelf.many;
    }
    return things;
  }

  private int countEmptyShelves() {
    int empty = 0;
    for (Shelf shelf : shelves) {
      empty += shelf.many == 0 ? 1 : 0;
    }
    return empty;
  }

  private int countHeldWalkers() {
    int walkers = 0;
    for (Shelf shelf : shelves) {
      walkers += shelf.isHolding ? 1 : 0;
    }
    return walkers;
  }

  private boolean areShelvesSound() {
    for (Shelf shelf : shelves) {
      if (!isSoundAlone(shelf)) {
        return false;
      }
    }
    for (Shelf one : shelves) {
      for (Shelf other : shelves) {
        if (one != other && !(areLeftoversSound(one, other) && areTextsSound(one, other))) {
          return false;
        }
      }
    }
    return true;
  }

  private boolean isSoundAlone(Shelf shelf) {
    copy.becomeGivingCopyOf(shelf);
    if (copy.many > shelf.limit || !copy.hasAllOf(copy)) {
      return false;
    }
    copy.takeEach();
    return copy.tellHowMany() == 0;
  }

  private boolean areLeftoversSound(Shelf one, Shelf other) {
    otherCopy.becomeGivingCopyOf(other);
    copy.becomeGivingCopyOf(one);
    copy.takeWhat(HAD, otherCopy);
    int leftByRemoving = copy.many;
    if (copy.hasAnyOf(otherCopy)) {
      return false;
    }
    copy.becomeGivingCopyOf(one);
    copy.takeWhat(NOT_HAD, otherCopy);
    return leftByRemoving + copy.many == one.many && otherCopy.hasAllOf(copy);
  }

  private boolean areTextsSound(Shelf one, Shelf other) {
    if (one.walk != other.walk || !one.hasSameRow(other)) {
      return true;
    }
    copy.becomeGivingCopyOf(one);
    otherCopy.becomeGivingCopyOf(other);
    return haveSameText(copy, otherCopy);
  }

  private long digestShelf(long before, Shelf shelf) {
    long d = before;
    for (int what = 0; what < TRAITS; what++) {
      d = d * 31 + shelf.trait(what);
    }
    for (int what = 0; what < COUNTS; what++) {
      d = d * 31 + shelf.counts[what];
    }
    for (int place = 0; place < shelf.many; place++) {
      d = d * 31 + shelf.row[place];
    }
    d = d * 31 + (shelf.isHolding ? 1 : 0);
    copy.becomeGivingCopyOf(shelf);
    copy.writeText(signs);
    for (int k = 0; k < signs.length(); k++) {
      d = d * 31 + signs.charAt(k);
    }
    return d;
  }

  /** Somebody to whom THINGS are told one by one; what it makes of them is one number. */
  private enum Hearer {
    ADDER(0) {
      int hear(int soFar, int thing) {
        return thing == NONE ? soFar : soFar + thing;
      }
    },
    KEEPER(NONE) {
      int hear(int soFar, int thing) {
        return Math.max(soFar, thing);
      }
    },
    WRITER(7) {
      int hear(int soFar, int thing) {
        return (soFar * 31 + thing + 2) % 1000003;
      }
    },
    COUNTER(0) {
      int hear(int soFar, int thing) {
        return soFar + 1;
      }
    };

    final int atFirst;

    Hearer(int atFirst) {
      this.atFirst = atFirst;
    }

    abstract int hear(int soFar, int thing);
  }

  /** Where a walker stands: the place it tells next, and the place it told last. */
  private static final class Walker {
    int next = 0;
    int last = NONE;
  }

  private static final class Shelf {
    final int[] row = new int[MOST_THINGS];
    int many = 0;
    int walk = FORTH;
    int rule = ANY;
    int limit = MOST_THINGS;
    boolean isGiving = true;
    final int[] counts = new int[COUNTS];

    final Walker held = new Walker();
    boolean isHolding = false;
    // A loop may go through this shelf while it asks this very shelf whether it HAS a THING.
    private final Walker looping = new Walker();
    private final Walker seeking = new Walker();

    void makeAnew(int newWalk, int newRule, int newLimit, boolean newIsGiving) {
      many = 0;
      walk = newWalk;
      rule = newRule;
      limit = newLimit;
      isGiving = newIsGiving;
      isHolding = false;
      for (int what = 0; what < COUNTS; what++) {
        counts[what] = 0;
      }
    }

    void becomeGivingCopyOf(Shelf other) {
      makeAnew(other.walk, other.rule, other.limit, true);
      for (int place = 0; place < other.many; place++) {
        row[place] = other.row[place];
      }
      many = other.many;
    }

    boolean isPlace(int place) {
      return place >= 0 && place < many;
    }

    boolean hasSameRow(Shelf other) {
      if (many != other.many) {
        return false;
      }
      for (int place = 0; place < many; place++) {
        if (row[place] != other.row[place]) {
          return false;
        }
      }
      return true;
    }

    int trait(int what) {
      switch (what) {
        case 0:
          return many;
        case 1:
          return walk;
        case 2:
          return rule;
        case 3:
          return limit;
        default:
          return isGiving ? 1 : 0;
      }
    }

    int tellHowMany() {
      counts[SIZES]++;
      return many;
    }

    /** Answers 1 if the thing was added, 0 if one ALIKE was there (UNLIKE), or REFUSED. */
    int put(int thing) {
      if (rule == NEVER) {
        return REFUSED;
      }
      if (rule == UNLIKE && isInRow(thing)) {
        return 0;
      }
      if (many >= limit) {
        return REFUSED;
      }
      row[many] = thing;
      many++;
      counts[ADDS]++;
      isHolding = false;
      return 1;
    }

    /** The look of RULE UNLIKE: no walker goes, so nothing is counted. */
    private boolean isInRow(int thing) {
      for (int place = 0; place < many; place++) {
        if (row[place] == thing) {
          return true;
        }
      }
      return false;
    }

    /** Holds a new walker; answers whether one was held already. */
    boolean hold() {
      boolean wasHolding = isHolding;
      startWalker(held);
      isHolding = true;
      return wasHolding;
    }

    private Walker startWalker(Walker walker) {
      walker.next = walk == BACK ? many - 1 : 0;
      walker.last = NONE;
      return walker;
    }

    boolean askWalker(Walker walker) {
      counts[ASKS]++;
      return isPlace(walker.next);
    }

    int stepWalker(Walker walker) {
      if (!isPlace(walker.next)) {
        return REFUSED;
      }
      counts[STEPS]++;
      walker.last = walker.next;
      walker.next += walk == BACK ? -1 : 1;
      return row[walker.last];
    }

    /** AWAY; answers false if that refuses. */
    boolean takeByWalker(Walker walker) {
      if (!isGiving || !isPlace(walker.last)) {
        return false;
      }
      counts[AWAYS]++;
      closeGap(walker.last);
      if (walk == FORTH) {
        walker.next = walker.last;
      }
      walker.last = NONE;
      if (walker != held) {
        isHolding = false;
      }
      return true;
    }

    private void closeGap(int gap) {
      many--;
      for (int place = gap; place < many; place++) {
        row[place] = row[place + 1];
      }
    }

    // Each loop asks once more than it steps: MOST_THINGS steps at most, and the last ASK.

    boolean has(int thing) {
      Walker walker = startWalker(seeking);
      for (int k = 0; k <= MOST_THINGS && askWalker(walker); k++) {
        if (stepWalker(walker) == thing) {
          return true;
        }
      }
      return false;
    }

    boolean hasAllOf(Shelf other) {
      Walker walker = other.startWalker(other.looping);
      for (int k = 0; k <= MOST_THINGS && other.askWalker(walker); k++) {
        if (!has(other.stepWalker(walker))) {
          return false;
        }
      }
      return true;
    }

    boolean hasAnyOf(Shelf other) {
      Walker walker = other.startWalker(other.looping);
      for (int k = 0; k <= MOST_THINGS && other.askWalker(walker); k++) {
        if (has(other.stepWalker(walker))) {
          return true;
        }
      }
      return false;
    }

    /** Answers 1 if some was added, 0 if none, or REFUSED. */
    int putAllOf(Shelf other) {
      int some = 0;
      Walker walker = other.startWalker(other.looping);
      for (int k = 0; k <= MOST_THINGS && other.askWalker(walker); k++) {
        int answer = put(other.stepWalker(walker));
        if (answer == REFUSED) {
          return REFUSED;
        }
        some = Math.max(some, answer);
      }
      return some;
    }

    /** What the other one has goes (HAD), or what it has not; answers as putAllOf does. */
    int takeWhat(boolean isHad, Shelf other) {
      int some = 0;
      Walker walker = startWalker(looping);
      for (int k = 0; k <= MOST_THINGS && askWalker(walker); k++) {
        if (other.has(stepWalker(walker)) == isHad) {
          if (!takeByWalker(walker)) {
            return REFUSED;
          }
          some = 1;
        }
      }
      return some;
    }

    /** Answers 1 if one ALIKE went, 0 if there was none, or REFUSED. */
    int takeAlike(int thing) {
      Walker walker = startWalker(looping);
      for (int k = 0; k <= MOST_THINGS && askWalker(walker); k++) {
        if (stepWalker(walker) == thing) {
          return takeByWalker(walker) ? 1 : REFUSED;
        }
      }
      return 0;
    }

    /** Answers how many went, or REFUSED. */
    int takeEach() {
      int gone = 0;
      Walker walker = startWalker(looping);
      for (int k = 0; k <= MOST_THINGS && askWalker(walker); k++) {
        stepWalker(walker);
        if (!takeByWalker(walker)) {
          return REFUSED;
        }
        gone++;
      }
      return gone;
    }

    int tellEach(Hearer hearer) {
      return tellRest(startWalker(looping), hearer);
    }

    int tellRest(Walker walker, Hearer hearer) {
      int heard = hearer.atFirst;
      for (int k = 0; k <= MOST_THINGS && askWalker(walker); k++) {
        heard = hearer.hear(heard, stepWalker(walker));
      }
      return heard;
    }

    void writeText(StringBuilder text) {
      text.setLength(0);
      text.append('[');
      Walker walker = startWalker(looping);
      for (int k = 0; k <= MOST_THINGS && askWalker(walker); k++) {
        if (k > 0) {
          text.append(", ");
        }
        writeThing(text, stepWalker(walker));
      }
      text.append(']');
    }

    /** Sign by sign: a digest writes many texts, and so none of them makes an object. */
    private static void writeThing(StringBuilder text, int thing) {
      if (thing == NONE) {
        text.append("null");
        return;
      }
      if (thing > 9) {
        text.append((char) ('0' + thing / 10));
      }
      text.append((char) ('0' + thing % 10));
    }
  }
}
