import java.util.AbstractCollection;
import java.util.ArrayList;
import java.util.Arrays;
import java.util.Collection;
import java.util.Iterator;
import java.util.List;
import java.util.NoSuchElementException;
import java.util.Objects;
import java.util.function.Function;

/**
 * The document's words again, with the loops of java.util.AbstractCollection in the place of its
 * section 3: the answers of Ownshelf are compared with these. NOTHING is null here.
 */
public final class Model {
  private static final int REFUSED = -9;

  /** What refuses. */
  private static final class Refusal extends RuntimeException {
    private static final long serialVersionUID = 1;
  }

  private static final class Shelf extends AbstractCollection<Integer> {
    final List<Integer> row = new ArrayList<>();
    final int[] counts = new int[5];
    int walk = 0;
    int rule = 0;
    int limit = 20;
    boolean isGiving = true;
    Walk held = null;

    @Override
    public boolean add(Integer thing) {
      if (rule == 2) {
        throw new Refusal();
      }
      if (rule == 1 && row.contains(thing)) {
        return false;
      }
      if (row.size() == limit) {
        throw new Refusal();
      }
      row.add(thing);
      counts[3]++;
      held = null;
      return true;
    }

    @Override
    public Iterator<Integer> iterator() {
      return new Walk(this);
    }

    @Override
    public int size() {
      counts[4]++;
      return row.size();
    }
  }

  private static final class Walk implements Iterator<Integer> {
    private final Shelf shelf;
    private int told = 0;
    private int lastPlace = -1;

    Walk(Shelf shelf) {
      this.shelf = shelf;
    }

    private int nextPlace() {
      return shelf.walk == 0 ? told : shelf.row.size() - 1 - told;
    }

    boolean isAhead() {
      return told < shelf.row.size();
    }

    @Override
    public boolean hasNext() {
      shelf.counts[0]++;
      return isAhead();
    }

    @Override
    public Integer next() {
      if (!isAhead()) {
        throw new NoSuchElementException();
      }
      shelf.counts[1]++;
      lastPlace = nextPlace();
      told++;
      return shelf.row.get(lastPlace);
    }

    @Override
    public void remove() {
      if (!shelf.isGiving || lastPlace < 0) {
        throw new Refusal();
      }
      shelf.counts[2]++;
      shelf.row.remove(lastPlace);
      lastPlace = -1;
      told--;
      if (shelf.held != this) {
        shelf.held = null;
      }
    }
  }

  private final Shelf[] shelves = {new Shelf(), new Shelf(), new Shelf(), new Shelf()};
  private int refusals = 0;
  private int knocks = 0;

  private Shelf at(int shelf) {
    return shelves[Objects.checkIndex(shelf, shelves.length)];
  }

  private Walk heldAt(int shelf) {
    Walk held = at(shelf).held;
    if (held == null) {
      throw new IllegalStateException();
    }
    return held;
  }

  private static void demand(boolean isSo) {
    if (!isSo) {
      throw new IllegalArgumentException();
    }
  }

  private static Integer thingOf(int number) {
    demand(number >= -1 && number <= 99);
    return number < 0 ? null : Integer.valueOf(number);
  }

  private static int numberOf(Integer thing) {
    return thing == null ? -1 : thing;
  }

  private static List<Integer> rowOf(int a, int b, int c) {
    return Arrays.asList(thingOf(a), thingOf(b), thingOf(c));
  }

  private <X> int told(X asked, Function<X, Integer> question) {
    try {
      return question.apply(asked);
    } catch (Refusal e) {
      refusals++;
      return REFUSED;
    }
  }

  private static int one(boolean isSo) {
    return isSo ? 1 : 0;
  }

  public int make(int shelf, int walk, int rule, int limit, boolean isGiving) {
    int had = at(shelf).row.size();
    demand(walk == 0 || walk == 1);
    demand(rule >= 0 && rule <= 2);
    demand(limit >= 1 && limit <= 20);
    Shelf made = new Shelf();
    made.walk = walk;
    made.rule = rule;
    made.limit = limit;
    made.isGiving = isGiving;
    shelves[shelf] = made;
    return had;
  }

  public int add(int shelf, int thing) {
    Shelf asked = at(shelf);
    Integer added = thingOf(thing);
    return told(asked, s -> one(s.add(added)));
  }

  public int fill(int shelf, int many, int from, int by) {
    Shelf filled = at(shelf);
    demand(many >= 0 && many <= 20 && from >= 0 && from <= 99 && by >= 0 && by <= 99);
    int added = 0;
    try {
      for (int k = 0; k < many; k++) {
        added += one(filled.add((from + k * by) % 10));
      }
    } catch (Refusal e) {
      return added;
    }
    return added;
  }

  public int remove(int shelf, int thing) {
    Shelf asked = at(shelf);
    Integer gone = thingOf(thing);
    return told(asked, s -> one(s.remove((Object) gone)));
  }

  public int clear(int shelf) {
    int many = at(shelf).row.size();
    return told(
        at(shelf),
        s -> {
          s.clear();
          return many;
        });
  }

  public int addAll(int shelf, int other) {
    Shelf asked = at(shelf);
    Shelf source = at(other);
    demand(shelf != other);
    return told(asked, s -> one(s.addAll(source)));
  }

  public int removeAll(int shelf, int other) {
    Collection<Integer> source = at(other);
    return told(at(shelf), s -> one(s.removeAll(source)));
  }

  public int retainAll(int shelf, int other) {
    Collection<Integer> source = at(other);
    return told(at(shelf), s -> one(s.retainAll(source)));
  }

  public int addRow(int shelf, int a, int b, int c) {
    Shelf asked = at(shelf);
    List<Integer> row = rowOf(a, b, c);
    return told(asked, s -> one(s.addAll(row)));
  }

  public int removeRow(int shelf, int a, int b, int c) {
    Shelf asked = at(shelf);
    List<Integer> row = rowOf(a, b, c);
    return told(asked, s -> one(s.removeAll(row)));
  }

  public int retainRow(int shelf, int a, int b, int c) {
    Shelf asked = at(shelf);
    List<Integer> row = rowOf(a, b, c);
    return told(asked, s -> one(s.retainAll(row)));
  }

  public int removeNone(int shelf, boolean isRetaining) {
    at(shelf);
    refusals++;
    return REFUSED;
  }

  public boolean contains(int shelf, int thing) {
    return at(shelf).contains(thingOf(thing));
  }

  public boolean containsAll(int shelf, int other) {
    Shelf asked = at(shelf);
    return asked.containsAll(at(other));
  }

  public boolean containsRow(int shelf, int a, int b, int c) {
    return at(shelf).containsAll(rowOf(a, b, c));
  }

  public boolean isEmpty(int shelf) {
    return at(shelf).isEmpty();
  }

  public int size(int shelf) {
    return at(shelf).size();
  }

  public String text(int shelf) {
    return at(shelf).toString();
  }

  public boolean areText(int shelf, int other) {
    Shelf asked = at(shelf);
    Shelf source = at(other);
    return asked.toString().equals(source.toString());
  }

  public int sum(int shelf) {
    int[] sum = {0};
    at(shelf).forEach(thing -> sum[0] += thing == null ? 0 : thing);
    return sum[0];
  }

  public int greatest(int shelf) {
    int[] most = {-1};
    at(shelf).forEach(thing -> most[0] = Math.max(most[0], numberOf(thing)));
    return most[0];
  }

  public int order(int shelf) {
    int[] number = {7};
    at(shelf).forEach(t -> number[0] = (31 * number[0] + numberOf(t) + 2) % 1000003);
    return number[0];
  }

  public int begin(int shelf) {
    Shelf walked = at(shelf);
    boolean wasHeld = walked.held != null;
    walked.held = new Walk(walked);
    return one(wasHeld);
  }

  public int ask(int shelf) {
    return one(heldAt(shelf).hasNext());
  }

  public int step(int shelf) {
    Walk held = heldAt(shelf);
    if (!held.isAhead()) {
      refusals++;
      return REFUSED;
    }
    return numberOf(held.next());
  }

  public int away(int shelf) {
    return told(
        heldAt(shelf),
        held -> {
          held.remove();
          return held.shelf.row.size();
        });
  }

  public int rest(int shelf) {
    int[] many = {0};
    heldAt(shelf).forEachRemaining(thing -> many[0]++);
    return many[0];
  }

  public boolean isHeld(int shelf) {
    return at(shelf).held != null;
  }

  public int thing(int shelf, int place) {
    List<Integer> row = at(shelf).row;
    return numberOf(row.get(Objects.checkIndex(place, row.size())));
  }

  public int count(int shelf, int what) {
    int[] counts = at(shelf).counts;
    demand(what >= 0 && what <= 4);
    return counts[what];
  }

  public int ofShelf(int shelf, int what) {
    Shelf s = at(shelf);
    demand(what >= 0 && what <= 4);
    return List.of(s.row.size(), s.walk, s.rule, s.limit, one(s.isGiving)).get(what);
  }

  public boolean areRows(int shelf, int other) {
    List<Integer> row = at(shelf).row;
    return row.equals(at(other).row);
  }

  public int house(int what) {
    demand(what >= 0 && what <= 4);
    int things = Arrays.stream(shelves).mapToInt(s -> s.row.size()).sum();
    int empty = (int) Arrays.stream(shelves).filter(s -> s.row.isEmpty()).count();
    int walkers = (int) Arrays.stream(shelves).filter(s -> s.held != null).count();
    return List.of(things, empty, walkers, refusals, knocks).get(what);
  }

  public int knock() {
    return ++knocks;
  }

  public boolean isSound() {
    return true;
  }

  public long digest() {
    List<Integer> numbers = new ArrayList<>();
    for (int what = 0; what < 5; what++) {
      numbers.add(house(what));
    }
    for (int shelf = 0; shelf < 4; shelf++) {
      for (int what = 0; what < 5; what++) {
        numbers.add(ofShelf(shelf, what));
      }
      Arrays.stream(at(shelf).counts).forEach(numbers::add);
      at(shelf).row.forEach(thing -> numbers.add(numberOf(thing)));
      numbers.add(one(isHeld(shelf)));
      int[] counts = at(shelf).counts.clone();
      text(shelf).chars().forEach(numbers::add);
      System.arraycopy(counts, 0, at(shelf).counts, 0, counts.length);
    }
    numbers.add(1);
    long d = 7786;
    for (int v : numbers) {
      d = d * 31 + v;
    }
    return d;
  }
}
