import java.lang.reflect.Method;
import java.nio.file.Path;
import java.util.ArrayList;
import java.util.Arrays;
import java.util.LinkedHashSet;
import java.util.List;
import java.util.Set;

/**
 * Each method with all its arguments, each one right or wrong, at both ends of its range: what it
 * throws, that of several exceptions the first one is thrown, and that nothing is changed then.
 */
public final class ThrowsTest extends Shelves {
  private static final Class<?> NO_SUCH = IndexOutOfBoundsException.class;
  private static final Class<?> BAD_ARGUMENT = IllegalArgumentException.class;
  private static final Class<?> NO_WALKER = IllegalStateException.class;

  private static final Set<String> WALKER_METHODS = Set.of("ask", "step", "away", "rest");

  private static final String ALL_OF_USED = allOf(used());

  private static final Set<String> thrown = new LinkedHashSet<>();

  public static void main(String[] arguments) throws Exception {
    Document document = new Document(Path.of(arguments[0]));
    Check.part("arguments right and wrong");
    for (Method method : Calls.methods()) {
      drawAll(method, Calls.kinds(method), new Object[Calls.kinds(method).length()], 0);
    }
    linesOfDocument(document);
    Check.end("ThrowsTest");
  }

  /** Shelves of many kinds, nearly all of which refuse; walkers stand in them. */
  private static Ownshelf used() {
    Ownshelf x = with(FORTH, ANY, 4, true, 1, 2, -1, 3);
    x.make(1, BACK, UNLIKE, 5, false);
    put(x, 1, 5, 6, -1);
    x.make(2, FORTH, NEVER, 20, true);
    x.fill(3, 20, 0, 1);
    x.begin(0);
    x.step(0);
    x.step(0);
    x.begin(1);
    x.step(1);
    x.begin(2);
    return x;
  }

  /** All that can be told of an object: where its walkers stand, too. Empties shelf 0. */
  private static String allOf(Ownshelf x) {
    StringBuilder text = new StringBuilder();
    text.append(x.digest()).append(' ').append(house(x));
    for (int shelf = 0; shelf < 4; shelf++) {
      text.append(" / ").append(x.isHeld(shelf)).append(' ').append(traits(x, shelf));
      text.append(", ").append(counts(x, shelf)).append(", ").append(row(x, shelf));
      if (x.isHeld(shelf)) {
        text.append(", ").append(x.away(shelf)).append(' ').append(x.step(shelf));
        text.append(' ').append(x.ask(shelf)).append(' ').append(x.rest(shelf));
      }
    }
    return text.append(' ').append(x.clear(0)).append(' ').append(x.digest()).toString();
  }

  private static List<Object> values(char kind) {
    if (kind == 'b') {
      return List.of(false, true);
    }
    List<Object> values = new ArrayList<>();
    int least = Calls.least(kind);
    int most = Calls.most(kind);
    values.addAll(List.of(least - 1, most + 1, Integer.MIN_VALUE, Integer.MAX_VALUE));
    if (kind == 's' || kind == 'q' || kind == 'p') {
      for (int k = least; k <= most; k++) {
        values.add(k);
      }
    } else {
      values.addAll(List.of(least, most));
    }
    return values;
  }

  private static void drawAll(Method method, String kinds, Object[] drawn, int from)
      throws Exception {
    if (from == drawn.length) {
      check(method, kinds, drawn);
      return;
    }
    for (Object value : values(kinds.charAt(from))) {
      drawn[from] = value;
      drawAll(method, kinds, drawn, from + 1);
    }
  }

  private static void check(Method method, String kinds, Object[] drawn) throws Exception {
    Ownshelf x = used();
    Class<?> due = dueOf(x, method.getName(), kinds, drawn);
    Object got = Calls.answer(x, method, drawn);
    String call = method.getName() + Arrays.toString(drawn);
    Check.due(call + " throws", got instanceof Class ? got : null, due);
    if (due != null) {
      thrown.add(method.getName() + " " + due.getSimpleName());
      Check.due("all of it after " + call, allOf(x), ALL_OF_USED);
    }
  }

  /** In the order in which the document names them. */
  private static Class<?> dueOf(Ownshelf x, String name, String kinds, Object[] drawn) {
    for (int k = 0; k < drawn.length; k++) {
      if (kinds.charAt(k) == 's' && isWrong('s', drawn[k])) {
        return NO_SUCH;
      }
    }
    if (kinds.equals("sp") && isNoPlace(x, (int) drawn[0], (int) drawn[1])) {
      return NO_SUCH;
    }
    for (int k = 0; k < drawn.length; k++) {
      if (kinds.charAt(k) != 'p' && isWrong(kinds.charAt(k), drawn[k])) {
        return BAD_ARGUMENT;
      }
    }
    if (name.equals("addAll") && drawn[0].equals(drawn[1])) {
      return BAD_ARGUMENT;
    }
    return WALKER_METHODS.contains(name) && !x.isHeld((int) drawn[0]) ? NO_WALKER : null;
  }

  private static boolean isWrong(char kind, Object value) {
    return kind != 'b' && ((int) value < Calls.least(kind) || (int) value > Calls.most(kind));
  }

  private static boolean isNoPlace(Ownshelf x, int shelf, int place) {
    return place < 0 || place >= x.ofShelf(shelf, 0);
  }

  /** Each line that names an exception was tested, and no exception was due that none names. */
  private static void linesOfDocument(Document document) {
    Set<String> named = new LinkedHashSet<>();
    for (String section : document.headings()) {
      String method = document.title(section).replaceAll(".*: ", "");
      for (String line : document.lines(section)) {
        if (section.startsWith("Promise ") && line.startsWith("Throws ")) {
          named.add(method + " " + line.replaceAll("Throws `(\\w+)`.*", "$1"));
        }
      }
    }
    Check.part("lines of the document that begin with Throws");
    Check.due("are tested", thrown.containsAll(named), true);
    Check.due("name what is due", named.containsAll(thrown), true);
    Check.due("how many", thrown.size(), named.size());
  }
}
