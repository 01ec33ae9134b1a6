import java.lang.reflect.InvocationTargetException;
import java.lang.reflect.Method;
import java.util.ArrayList;
import java.util.Arrays;
import java.util.Comparator;
import java.util.HashMap;
import java.util.List;
import java.util.Map;
import java.util.Random;

/** Runs of 512 drawn calls, the same ones each time: Ownshelf answers as Model does. */
public final class ModelTest {
  private static final int RUNS = 1500;
  private static final int CALLS = 512;

  // A letter an argument: s shelf, t thing, w walk, r rule, l limit, b boolean, m many, n number,
  // p place, q one of 0 to 4.
  private static final Map<String, String> ARGUMENTS = new HashMap<>();

  static {
    String[] all = {
      "make swrlb", "add st", "fill smnn", "remove st", "clear s", "addAll ss", "removeAll ss",
      "retainAll ss", "addRow sttt", "removeRow sttt", "retainRow sttt", "removeNone sb",
      "contains st", "containsAll ss", "containsRow sttt", "isEmpty s", "size s", "text s",
      "areText ss", "sum s", "greatest s", "order s", "begin s", "ask s", "step s", "away s",
      "rest s", "isHeld s", "thing sp", "count sq", "ofShelf sq", "areRows ss", "house q",
      "knock ", "isSound ", "digest "
    };
    for (String one : all) {
      ARGUMENTS.put(one.substring(0, one.indexOf(' ')), one.substring(one.indexOf(' ') + 1));
    }
  }

  // Drawn oftener than the others: shelves are to hold things, and walkers to go through them.
  private static final List<String> OFTEN =
      List.of("add", "addRow", "fill", "begin", "ask", "step", "step", "step", "away", "addAll");

  private static List<String> calls = new ArrayList<>();

  public static void main(String[] arguments) throws Exception {
    Method[] methods = Ownshelf.class.getMethods();
    methods = Arrays.stream(methods).filter(m -> ARGUMENTS.containsKey(m.getName()))
        .sorted(Comparator.comparing(Method::getName)).toArray(Method[]::new);
    Check.part("drawn calls");
    Check.due("how many methods are drawn", methods.length, ARGUMENTS.size());
    for (int run = 0; run < RUNS; run++) {
      oneRun(run, methods);
    }
    Check.end("ModelTest");
  }

  private static void oneRun(int run, Method[] methods) throws Exception {
    Random random = new Random(run);
    Ownshelf own = new Ownshelf();
    Model model = new Model();
    calls.clear();
    boolean isRight = true;
    for (int k = 0; k < CALLS && isRight; k++) {
      Method method = drawMethod(random, methods);
      Object[] drawn = drawArguments(random, method, run % 3 == 0);
      calls.add(method.getName() + Arrays.toString(drawn));
      Object got = answer(own, method, drawn);
      Method same = Model.class.getMethod(method.getName(), method.getParameterTypes());
      Object want = answer(model, same, drawn);
      Check.due("run " + run + ", call " + k + " " + calls.get(k), got, want);
      isRight = got.equals(want);
    }
    isRight = isRight && own.digest() == model.digest();
    Check.due("run " + run + " ends alike", isRight, true);
    if (!isRight) {
      System.out.println(calls);
    }
  }

  private static Method drawMethod(Random random, Method[] methods) {
    if (random.nextInt(3) > 0) {
      return methods[random.nextInt(methods.length)];
    }
    String name = OFTEN.get(random.nextInt(OFTEN.size()));
    for (Method method : methods) {
      if (method.getName().equals(name)) {
        return method;
      }
    }
    throw new IllegalStateException(name);
  }

  private static Object[] drawArguments(Random random, Method method, boolean isWide) {
    String kinds = ARGUMENTS.get(method.getName());
    Object[] drawn = new Object[kinds.length()];
    for (int k = 0; k < drawn.length; k++) {
      char kind = kinds.charAt(k);
      if (kind == 'b') {
        drawn[k] = random.nextInt(4) > 0;
      } else {
        drawn[k] = random.nextInt(60) == 0 ? drawOdd(random) : drawNumber(random, kind, isWide);
      }
    }
    return drawn;
  }

  private static int drawOdd(Random random) {
    int[] odd = {-10, -9, -2, -1, 4, 5, 20, 21, 99, 100, Integer.MAX_VALUE, Integer.MIN_VALUE};
    return odd[random.nextInt(odd.length)];
  }

  private static int drawNumber(Random random, char kind, boolean isWide) {
    switch (kind) {
      case 's':
        return random.nextInt(4);
      case 't':
        return random.nextInt(isWide ? 101 : 8) - 1;
      case 'w':
        return random.nextInt(2);
      case 'r':
        return random.nextInt(7) / 3;
      case 'l':
        return 1 + random.nextInt(20);
      case 'm':
        return random.nextInt(21);
      case 'n':
        return random.nextInt(100);
      case 'p':
        return random.nextInt(20);
      default:
        return random.nextInt(5);
    }
  }

  private static Object answer(Object asked, Method method, Object[] arguments) throws Exception {
    try {
      return method.invoke(asked, arguments);
    } catch (InvocationTargetException e) {
      return e.getCause().getClass();
    }
  }
}
