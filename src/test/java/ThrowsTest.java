import java.lang.reflect.Method;
import java.nio.file.Path;
import java.util.ArrayList;
import java.util.Arrays;
import java.util.HashMap;
import java.util.List;
import java.util.Map;
import java.util.Set;

/**
 * Each method with all its arguments, each one right or wrong, at both ends of its range: what it
 * throws, that of several exceptions the first one is thrown, and that nothing is changed then.
 */
public final class ThrowsTest extends Shelves {
  private static final Class<?> NO_SUCH = IndexOutOfBoundsException.class;
  private static final Class<?> BAD_ARGUMENT = IllegalArgumentException.class;
  private static final Class<?> NO_WALKER = IllegalStateException.class;

  private static final Set<String> WALKER_METHODS = Set.of("ask", "step", "away", "rest");

  private static String untouched;

  public static void main(String[] arguments) throws Exception {
    Document document = new Document(Path.of(arguments[0]));
    Check.part("an object that no call has changed");
    untouched = allOf(used());
    for (Method method : Calls.methods()) {
      oneMethod(method, document, document.sectionOf(method.getName()));
    }
    Check.end("ThrowsTest");
  }

  /** Each line that begins with Throws, and then the calls that throw nothing. */
  private static void oneMethod(Method method, Document document, String section)
      throws Exception {
    String kinds = Calls.kinds(method);
    Map<Class<?>, List<Object[]>> calls = new HashMap<>();
    drawAll(method.getName(), kinds, new Object[kinds.length()], 0, calls);
    for (String line : document.lines(section)) {
      if (line.startsWith("Throws ")) {
        document.quote(section, line);
        Class<?> due = Class.forName("java.lang." + line.replaceAll("Throws `(\\w+)`.*", "$1"));
        List<Object[]> throwing = calls.remove(due);
        Check.due("is tested", throwing != null, true);
        for (Object[] drawn : throwing) {
          throwsAndChangesNothing(method, drawn, due);
        }
      }
    }
    Check.part(section + ": right arguments");
    for (Object[] drawn : calls.remove(null)) {
      Object got = Calls.answer(used(), method, drawn);
      Check.due(call(method, drawn) + " throws", got instanceof Class ? got : null, null);
    }
    Check.due("exceptions that no line names", calls.keySet(), Set.of());
  }

  /** Shelves of many kinds, nearly all of which refuse; walkers stand in them. */
  private static Ownshelf used() {
    Ownshelf x = with(FORTH, ANY, 4, true, 1, 2, -1, 3);
    x.make(1, BACK, UNLIKE, 5, false);
    put(x, 1, 5, 6, -1);
    x.make(2, FORTH, NEVER, 20, true);
    x.fill(3, 20, 0, 1);
    x.begin(0);
    x.step(0);
    x.step(0);
    x.begin(1);
    x.step(1);
    x.begin(2);
    return x;
  }

  /** All that can be told of an object: where its walkers stand, too. Empties shelf 0. */
  private static String allOf(Ownshelf x) {
    StringBuilder text = new StringBuilder();
    text.append(x.digest()).append(' ').append(house(x));
    for (int shelf = 0; shelf < 4; shelf++) {
      text.append(" / ").append(x.isHeld(shelf)).append(' ').append(traits(x, shelf));
      text.append(", ").append(counts(x, shelf)).append(", ").append(row(x, shelf));
      if (x.isHeld(shelf)) {
        text.append(", ").append(x.away(shelf)).append(' ').append(x.step(shelf));
        text.append(' ').append(x.ask(shelf)).append(' ').append(x.rest(shelf));
      }
    }
    return text.append(' ').append(x.clear(0)).append(' ').append(x.digest()).toString();
  }

  private static List<Object> values(char kind) {
    if (kind == 'b') {
      return List.of(false, true);
    }
    List<Object> values = new ArrayList<>();
    int least = Calls.least(kind);
    int most = Calls.most(kind);
    values.addAll(List.of(least - 1, most + 1, Integer.MIN_VALUE, Integer.MAX_VALUE));
    if (kind == 's' || kind == 'q' || kind == 'p') {
      for (int k = least; k <= most; k++) {
        values.add(k);
      }
    } else {
      values.addAll(List.of(least, most));
    }
    return values;
  }

  /** All rows of arguments, by the exception that is due (null: none). */
  private static void drawAll(
      String name, String kinds, Object[] drawn, int from, Map<Class<?>, List<Object[]>> calls) {
    if (from == drawn.length) {
      Class<?> due = dueOf(used(), name, kinds, drawn);
      calls.computeIfAbsent(due, d -> new ArrayList<>()).add(drawn.clone());
      return;
    }
    for (Object value : values(kinds.charAt(from))) {
      drawn[from] = value;
      drawAll(name, kinds, drawn, from + 1, calls);
    }
  }

  private static String call(Method method, Object[] drawn) {
    return method.getName() + Arrays.toString(drawn);
  }

  private static void throwsAndChangesNothing(Method method, Object[] drawn, Class<?> due)
      throws Exception {
    Ownshelf x = used();
    Object got = Calls.answer(x, method, drawn);
    Check.due(call(method, drawn) + " throws", got instanceof Class ? got : null, due);
    Check.due("all of it after " + call(method, drawn), allOf(x), untouched);
  }

  /** In the order in which the document names them. */
  private static Class<?> dueOf(Ownshelf x, String name, String kinds, Object[] drawn) {
    for (int k = 0; k < drawn.length; k++) {
      if (kinds.charAt(k) == 's' && isWrong('s', drawn[k])) {
        return NO_SUCH;
      }
    }
    if (kinds.equals("sp") && isNoPlace(x, (int) drawn[0], (int) drawn[1])) {
      return NO_SUCH;
    }
    for (int k = 0; k < drawn.length; k++) {
      if (kinds.charAt(k) != 'p' && isWrong(kinds.charAt(k), drawn[k])) {
        return BAD_ARGUMENT;
      }
    }
    if (name.equals("addAll") && drawn[0].equals(drawn[1])) {
      return BAD_ARGUMENT;
    }
    return WALKER_METHODS.contains(name) && !x.isHeld((int) drawn[0]) ? NO_WALKER : null;
  }

  private static boolean isWrong(char kind, Object value) {
    return kind != 'b' && ((int) value < Calls.least(kind) || (int) value > Calls.most(kind));
  }

  private static boolean isNoPlace(Ownshelf x, int shelf, int place) {
    return place < 0 || place >= x.ofShelf(shelf, 0);
  }
}
