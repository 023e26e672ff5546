import java.lang.reflect.Constructor;
import java.lang.reflect.Field;
import java.lang.reflect.Method;
import java.lang.reflect.Modifier;
import java.nio.file.Files;
import java.nio.file.Path;
import java.util.ArrayList;
import java.util.Arrays;
import java.util.List;
import java.util.Set;
import java.util.TreeSet;
import java.util.regex.Matcher;
import java.util.regex.Pattern;

/** The rules of LANGUAGE.md that can be seen from the class and from its text. Runs in the project's folder. */
public final class RulesTest {
  private static final Path SOURCE = Path.of("src/main/java/SandPiano.java");
  private static final Path DOCUMENT = Path.of("../shared/DOC.md");
  private static final String FACE = """
      int row(int, int)
      int lay(int, int, int)
      int at(int, int)
      int tear(int)
      int copy(int, int, int, int, int)
      int mean(int)
      int text(int, int)
      int put(int, int, int)
      int fault(int)
      int piano(int)
      int key(int, int)
      int mark(int, int)
      int spade(int)
      int play(int)
      int tide(int)
      int storm(int)
      int dig(int)
      int undo(int)
      int can()
      int keep(int)
      int on(int)
      int judge(int)
      int earns(int)
      int digs(int, int)
      int lasts(int, int)
      int duet(int, int)
      int most(int)
      int best(int, int)
      int rows(int)
      int back(int, int, int)
      int ring(int)
      int strike(int)
      int tune(int)
      int bet(int, int)
      int wind(int, int)
      int asked()
      long upper()
      long lower()
      int count(int)
      int finding()
      int findings(int)
      long digest()
      """;
  private static final String[] NEVER = {"\\bthrow", "\\btry\\b", "\\bcatch\\b", "\\bsynchronized\\b", "\\bassert\\b", "->", "::",
    "\\bstatic\\s*\\{", "\\bpackage\\b", "\\bprotected\\b", "\\bhashCode\\b", "\\btoString\\b", "Exact\\b", "\\bvar\\b", "\\bdouble\\b",
    "\\bfloat\\b", "\\bSystem\\.(?!arraycopy)", "\\bRandom\\b", "\\bThread\\b", "\\bnull\\b", "\\bimport (?!java\\.util\\.Arrays;)"};
  private static final Pattern LIBRARY_CALL = Pattern.compile("\\b([A-Z][a-z]\\w*\\.\\w+)\\(");
  private static final Set<String> LIBRARY = Set.of("Arrays.fill", "Arrays.copyOf", "Arrays.copyOfRange", "System.arraycopy",
    "Math.min", "Math.max", "Math.abs", "Integer.bitCount", "Integer.compare", "Long.compare");
  private static final Pattern MACHINE_MADE = Pattern.compile("lambda\\$.*|access\\$.*|\\$.*");
  private static int wrong = 0;

  private static void due(String what, Object got, Object want) {
    if (got.equals(want)) return;
    wrong++;
    System.out.println(what + ": " + got + ", due is " + want);
  }

  public static void main(String[] args) throws Exception {
    face();
    inside();
    text(Files.readString(SOURCE));
    System.out.println(wrong == 0 ? "the rules are kept" : wrong + " rules are not kept");
    if (wrong != 0) System.exit(1);
  }

  private static void face() throws Exception {
    Class<?> c = SandPiano.class;
    due("the class", c.getModifiers(), Modifier.PUBLIC | Modifier.FINAL);
    Set<String> methods = new TreeSet<>(), names = new TreeSet<>(), dueMethods = new TreeSet<>();
    for (String line : FACE.split("\n")) dueMethods.add(line.strip());
    for (Method m : c.getDeclaredMethods()) {
      if (!Modifier.isPublic(m.getModifiers())) continue;
      List<String> types = new ArrayList<>();
      for (Class<?> p : m.getParameterTypes()) types.add(p.getName());
      methods.add(m.getReturnType().getName() + " " + m.getName() + "(" + String.join(", ", types) + ")");
      names.add(m.getName());
    }
    due("the public methods", methods, dueMethods);
    if (Files.isReadable(DOCUMENT)) due("the document's face", told(Files.readString(DOCUMENT)), dueMethods);
    Constructor<?>[] made = c.getDeclaredConstructors();
    due("constructors", made.length, 1);
    due("the constructor", Modifier.isPublic(made[0].getModifiers()) && made[0].getParameterCount() == 0, true);
    Set<String> constants = new TreeSet<>();
    for (Field f : c.getDeclaredFields()) {
      int m = f.getModifiers();
      if (Modifier.isPublic(m)) constants.add(f.getName() + " " + (Modifier.isStatic(m) && Modifier.isFinal(m) ? f.getInt(null) : 0));
      else due("field " + f.getName() + " is private", Modifier.isPrivate(m), true);
    }
    due("the constants", constants, new TreeSet<>(Set.of("BAD -1", "FULL -2", "FINDING -3", "STATE -4", "SPENT -6", "NONE -9")));
    List<Class<?>> all = new ArrayList<>(Arrays.asList(c.getDeclaredClasses()));
    all.add(c);
    for (Class<?> one : all) {
      for (Method m : one.getDeclaredMethods()) {
        if (Modifier.isPublic(m.getModifiers()) && one == c) continue;
        due(one.getName() + "." + m.getName() + " bears a public name", names.contains(m.getName()), false);
        due("machine-made " + m.getName(), MACHINE_MADE.matcher(m.getName()).matches(), false);
        if (one == c) due(m.getName() + " is private", Modifier.isPrivate(m.getModifiers()), true);
      }
    }
  }

  /** The methods of "The public face", without the names of what they take. */
  private static Set<String> told(String document) {
    Set<String> all = new TreeSet<>();
    Matcher m = Pattern.compile("(?m)^    public (\\w+ \\w+\\([^)]*\\));$").matcher(document);
    while (m.find()) all.add(m.group(1).replaceAll("\\b(int|long) \\w+(?=[,)])", "$1"));
    return all;
  }

  private static void inside() {
    Class<?>[] inside = SandPiano.class.getDeclaredClasses();
    due("at most twelve classes", inside.length < 12, true);
    for (Class<?> c : inside) {
      due(c.getName() + " is static", Modifier.isStatic(c.getModifiers()), true);
      due(c.getName() + " is not public", Modifier.isPublic(c.getModifiers()), false);
    }
    List<Class<?>> all = new ArrayList<>(Arrays.asList(inside));
    all.add(SandPiano.class);
    for (Class<?> c : all) {
      int fields = 0;
      for (Field f : c.getDeclaredFields()) {
        if (!Modifier.isStatic(f.getModifiers())) fields++;
        else staticField(f);
        due(f.getName() + "'s type is allowed", allowed(f.getType()), true);
      }
      due(c.getName() + " has at most twenty fields", fields <= 20, true);
      for (Method m : c.getDeclaredMethods()) due(m.getName() + " takes at most seven", m.getParameterCount() <= 7, true);
    }
  }

  private static void staticField(Field f) {
    due("static " + f.getName() + " is final", Modifier.isFinal(f.getModifiers()), true);
    Set<Class<?>> types = Set.of(int.class, long.class, boolean.class, char.class, String.class, int[].class, long[].class,
      char[].class, byte[].class);
    due("static " + f.getName() + " is a constant", types.contains(f.getType()), true);
  }
  private static boolean allowed(Class<?> type) {
    if (type.isArray()) return allowed(type.getComponentType());
    return type.isPrimitive() || type == String.class || type.getNestHost() == SandPiano.class;
  }

  private static void text(String source) {
    String code = source.replaceAll("(?s)/\\*.*?\\*/", "").replaceAll("//[^\n]*", "");
    for (String never : NEVER) {
      Matcher m = Pattern.compile(never).matcher(code);
      if (m.find()) due("'" + never + "' in the text", m.group(), "nothing");
    }
    Set<String> own = new TreeSet<>();
    for (Class<?> c : SandPiano.class.getDeclaredClasses()) own.add(c.getSimpleName());
    Matcher call = LIBRARY_CALL.matcher(code);
    while (call.find()) {
      String name = call.group(1);
      due(name + " may be called", LIBRARY.contains(name) || own.contains(name.substring(0, name.indexOf('.'))), true);
    }
    for (int i = 0; i < source.length(); i++) {
      if (source.charAt(i) > 126) due("sign " + i, (int) source.charAt(i), "below 127");
    }
    int start = 0, line = 0;
    for (String s : source.split("\n")) {
      line++;
      if (s.matches("( {4}| {8})(?! ).*\\) \\{") || s.matches("( {4}| {8})(?! ).*class.* \\{")) start = line;
      if (s.matches("( {4}| {8})\\}")) due("the lines from " + start + " on are at most sixty", line - start <= 60 || source.split("\n")[start - 1].contains("class"), true);
    }
  }
}
