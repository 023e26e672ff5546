import java.lang.reflect.InvocationTargetException;
import java.lang.reflect.Method;
import java.lang.reflect.Modifier;
import java.util.ArrayList;
import java.util.Arrays;
import java.util.List;

/**
 * Every call with all mixtures of a set of numbers at and beyond the bounds, in several states of an object: it never
 * throws, and answers as the model does.
 */
public final class ExtremesTest {
  private static final int LOW = Integer.MIN_VALUE, HIGH = Integer.MAX_VALUE;
  /** Numbers for calls with one, two, three and five arguments; the fewer, the more arguments there are. */
  private static final int[] MANY = {LOW, LOW + 1, -61, -41, -10, -2, -1, 0, 1, 2, 3, 4, 5, 6, 7, 8, 9, 10, 11, 12, 13, 39, 40, 41, 59, 60, 61, 255,
    256, 999, 1000, 1 << 16, HIGH - 1, HIGH};
  private static final int[] SOME = {LOW, -1, 0, 1, 2, 3, 4, 5, 6, 9, 10, 40, 41, 60, 61, 1 << 16, HIGH - 1, HIGH};
  private static final int[] FEW = {LOW, -1, 0, 1, 2, 3, 4, 5, 6, 40, 60, HIGH};
  private static final int[] FEWEST = {LOW, -1, 0, 2, 5, 6, 40, HIGH};
  private static final int CALLS_OF_AN_OBJECT = 100;
  private static int wrong = 0;

  /** An object and a model that were told the same. */
  private static final class Pair {
    final SandPiano x = new SandPiano();
    final Model m = new Model();

    void piano(String s) {
      text(0, s);
      alike("piano(" + s + ")", x.piano(0), m.piano(0));
    }
    void text(int t, String s) {
      alike("text", x.text(t, s.length()), m.text(t, s.length()));
      for (int i = 0; i < s.length(); i++) alike("put", x.put(t, i, s.charAt(i)), m.put(t, i, s.charAt(i)));
    }
    void row(int r, int... values) {
      alike("row", x.row(r, values.length), m.row(r, values.length));
      for (int i = 0; i < values.length; i++) alike("lay", x.lay(r, i, values[i]), m.lay(r, i, values[i]));
    }
    /** Rows and texts that are short, long, empty, missing. */
    void shelves() {
      row(0, 0, 1);
      row(1);
      row(2, new int[40]);
      row(3, 0, 0, 0, 0, 0, 0);
      row(4, new int[12]);
      text(1, "");
      text(2, " ".repeat(60));
      x.keep(1);
      m.keep(1);
    }
    void deeds(int n) {
      for (int i = 0; i < n; i++) alike("tide", x.tide(i % 3 == 0 ? 1 : 0), m.tide(i % 3 == 0 ? 1 : 0));
    }
    void told(String call) {
      alike(call + ", asked()", x.asked(), m.asked());
      alike(call + ", upper()", x.upper(), m.upper());
      alike(call + ", lower()", x.lower(), m.lower());
      alike(call + ", finding()", x.finding(), m.finding());
    }
  }
  private static final String[] STATES = {"new", "rows without keys", "no keys", "one key", "six keys", "six keys, full"};
  private static Pair pair(int state) {
    Pair p = new Pair();
    switch (state) {
      case 0: break;
      case 1: p.shelves(); break;
      case 2: p.piano(" p9"); p.shelves(); break;
      case 3: p.piano("p1 k9995 "); p.deeds(3); p.shelves(); break;
      case 4: p.piano("p2k3021b4032s0023c5004d9095r0996"); p.deeds(5); p.shelves(); break;
      default: p.piano("p9c9029c9039k9049d9059b9069r9999"); p.deeds(60); p.shelves(); break;
    }
    return p;
  }

  private static void alike(String call, long got, long due) {
    if (got == due) return;
    wrong++;
    if (wrong < 20) System.out.println(call + " answered " + got + ", the model " + due);
  }

  public static void main(String[] args) throws Exception {
    int calls = 0;
    for (Method call : SandPiano.class.getDeclaredMethods()) {
      if (!Modifier.isPublic(call.getModifiers())) continue;
      Method model = Model.class.getDeclaredMethod(call.getName(), call.getParameterTypes());
      List<Object[]> all = mixtures(call.getParameterCount());
      for (int state = 0; state < STATES.length; state++) run(state, call, model, all);
      calls += all.size() * STATES.length;
    }
    System.out.println(wrong == 0 ? calls + " calls at the bounds answer as due" : wrong + " answers are not as due");
    if (wrong != 0) System.exit(1);
  }

  private static List<Object[]> mixtures(int arguments) {
    int[] values = arguments <= 1 ? MANY : arguments == 2 ? SOME : arguments == 3 ? FEW : FEWEST;
    List<Object[]> all = new ArrayList<>();
    long many = 1;
    for (int i = 0; i < arguments; i++) many *= values.length;
    for (long c = 0; c < many; c++) {
      Object[] mixture = new Object[arguments];
      long rest = c;
      for (int i = 0; i < arguments; i++) { mixture[i] = values[(int) (rest % values.length)]; rest /= values.length; }
      all.add(mixture);
    }
    return all;
  }

  private static void run(int state, Method call, Method model, List<Object[]> all) throws Exception {
    Pair p = null;
    String last = "";
    for (int i = 0; i < all.size(); i++) {
      if (i % CALLS_OF_AN_OBJECT == 0) {
        if (p != null) alike("digest() up to " + last, p.x.digest(), p.m.digest());
        p = pair(state);
      }
      last = STATES[state] + ", " + call.getName() + Arrays.toString(all.get(i));
      long due = ((Number) model.invoke(p.m, all.get(i))).longValue();
      alike(last, answer(call, p.x, all.get(i), last), due);
      p.told(last);
    }
    if (p != null) alike("digest() up to " + last, p.x.digest(), p.m.digest());
  }
  private static long answer(Method call, SandPiano x, Object[] arguments, String what) throws IllegalAccessException {
    try {
      return ((Number) call.invoke(x, arguments)).longValue();
    } catch (InvocationTargetException e) {
      System.out.println(what + " threw " + e.getCause());
      return Long.MIN_VALUE;
    }
  }
}
