import java.lang.reflect.InvocationTargetException;
import java.lang.reflect.Method;
import java.util.Arrays;
import java.util.Comparator;
import java.util.HashMap;
import java.util.Map;

/** The methods of Ownshelf, what arguments they take, and what a call of one answers. */
final class Calls {
  // A letter an argument: s shelf, t thing, w walk, r rule, l limit, b boolean, m many, n number,
  // p place, q one of 0 to 4.
  private static final Map<String, String> KINDS = new HashMap<>();

  static {
    String[] all = {
      "make swrlb", "add st", "fill smnn", "remove st", "clear s", "addAll ss", "removeAll ss",
      "retainAll ss", "addRow sttt", "removeRow sttt", "retainRow sttt", "removeNone sb",
      "contains st", "containsAll ss", "containsRow sttt", "isEmpty s", "size s", "text s",
      "areText ss", "sum s", "greatest s", "order s", "begin s", "ask s", "step s", "away s",
      "rest s", "isHeld s", "thing sp", "count sq", "ofShelf sq", "areRows ss", "house q",
      "knock ", "isSound ", "digest "
    };
    for (String one : all) {
      KINDS.put(one.substring(0, one.indexOf(' ')), one.substring(one.indexOf(' ') + 1));
    }
  }

  private Calls() {}

  /** All of them, by name. */
  static Method[] methods() {
    Method[] methods =
        Arrays.stream(Ownshelf.class.getMethods())
            .filter(m -> KINDS.containsKey(m.getName()))
            .sorted(Comparator.comparing(Method::getName))
            .toArray(Method[]::new);
    Check.due("how many methods are called", methods.length, KINDS.size());
    return methods;
  }

  static String kinds(Method method) {
    return KINDS.get(method.getName());
  }

  /** The least argument of this kind that is right; a place's end depends on its shelf. */
  static int least(char kind) {
    return kind == 't' ? -1 : kind == 'l' ? 1 : 0;
  }

  static int most(char kind) {
    switch (kind) {
      case 's':
        return 3;
      case 'w':
        return 1;
      case 'r':
        return 2;
      case 'l':
      case 'm':
        return 20;
      case 'p':
        return 19;
      case 'q':
        return 4;
      default:
        return 99;
    }
  }

  /** What the call answers, or the class of what it throws. */
  static Object answer(Object asked, Method method, Object... arguments) throws Exception {
    try {
      return method.invoke(asked, arguments);
    } catch (InvocationTargetException e) {
      return e.getCause().getClass();
    }
  }
}
