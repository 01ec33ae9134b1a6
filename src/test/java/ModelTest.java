import java.lang.reflect.Method;
import java.util.ArrayList;
import java.util.Arrays;
import java.util.List;
import java.util.Random;

/** Runs of 512 calls, drawn but for the last, digest: Ownshelf answers as Model does. */
public final class ModelTest {
  private static final int RUNS = 1500;
  private static final int DRAWN = 511;

  // Drawn oftener than the others: shelves are to hold things, and walkers to go through them.
  private static final List<String> OFTEN =
      List.of("add", "addRow", "fill", "begin", "ask", "step", "step", "step", "away", "addAll");

  private static List<String> calls = new ArrayList<>();

  public static void main(String[] arguments) throws Exception {
    Check.part("drawn calls");
    Method[] methods = Calls.methods();
    for (int run = 0; run < RUNS; run++) {
      oneRun(run, methods);
    }
    Check.end("ModelTest");
  }

  private static void oneRun(int run, Method[] methods) throws Exception {
    Random random = new Random(run);
    Ownshelf own = new Ownshelf();
    Model model = new Model();
    calls.clear();
    boolean isRight = true;
    for (int k = 0; k < DRAWN && isRight; k++) {
      Method method = drawMethod(random, methods);
      Object[] drawn = drawArguments(random, method, run % 3 == 0);
      calls.add(method.getName() + Arrays.toString(drawn));
      Object got = Calls.answer(own, method, drawn);
      Method same = Model.class.getMethod(method.getName(), method.getParameterTypes());
      Object want = Calls.answer(model, same, drawn);
      Check.due("run " + run + ", call " + k + " " + calls.get(k), got, want);
      isRight = got.equals(want);
    }
    isRight = isRight && own.digest() == model.digest();
    Check.due("run " + run + " ends alike", isRight, true);
    if (!isRight) {
      System.out.println(calls);
    }
  }

  private static Method drawMethod(Random random, Method[] methods) {
    if (random.nextInt(3) > 0) {
      return methods[random.nextInt(methods.length)];
    }
    String name = OFTEN.get(random.nextInt(OFTEN.size()));
    for (Method method : methods) {
      if (method.getName().equals(name)) {
        return method;
      }
    }
    throw new IllegalStateException(name);
  }

  private static Object[] drawArguments(Random random, Method method, boolean isWide) {
    String kinds = Calls.kinds(method);
    Object[] drawn = new Object[kinds.length()];
    for (int k = 0; k < drawn.length; k++) {
      char kind = kinds.charAt(k);
      if (kind == 'b') {
        drawn[k] = random.nextInt(4) > 0;
      } else {
        drawn[k] = random.nextInt(60) == 0 ? drawOdd(random) : drawNumber(random, kind, isWide);
      }
    }
    return drawn;
  }

  private static int drawOdd(Random random) {
    int[] odd = {-10, -9, -2, -1, 4, 5, 20, 21, 99, 100, Integer.MAX_VALUE, Integer.MIN_VALUE};
    return odd[random.nextInt(odd.length)];
  }

  private static int drawNumber(Random random, char kind, boolean isWide) {
    if (kind == 't' && !isWide) {
      return random.nextInt(8) - 1;
    }
    if (kind == 'r') {
      return random.nextInt(7) / 3; // a shelf that never takes a thing is drawn less often
    }
    return Calls.least(kind) + random.nextInt(Calls.most(kind) - Calls.least(kind) + 1);
  }
}
