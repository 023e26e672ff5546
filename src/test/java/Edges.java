import java.io.IOException;
import java.nio.file.Files;
import java.nio.file.Path;
import java.util.Map;
import java.util.TreeMap;
import java.util.function.Consumer;
import java.util.regex.Matcher;
import java.util.regex.Pattern;

/**
 * Tests of single sentences. Each is given with the sentence's words, and all words given for a promise must be the
 * words of the document, in its order: so no sentence is left without a test of its own.
 */
abstract class Edges extends Check {
  private static final Path DOCUMENT = Path.of("../shared/DOC.md");
  /** The number under which the words of "Terms" are given. */
  static final int TERMS = 0;
  private static final Map<Integer, StringBuilder> given = new TreeMap<>();

  static void says(int promise, String words, Runnable test) {
    given.computeIfAbsent(promise, p -> new StringBuilder()).append(words);
    String subject = (promise == TERMS ? "terms" : "promise " + promise) + ", '" + words.strip() + "'";
    about(subject);
    int before = comparisons();
    test.run();
    about(subject);
    due("it compares something", comparisons() > before ? 1 : 0, 1);
  }

  /** The words given for promises of these numbers are the document's. */
  static void quoted(int from, int to) {
    about("the document");
    if (!Files.isReadable(DOCUMENT)) {
      // The answers were compared all the same; only the words can't be.
      System.out.println("no " + DOCUMENT + ": the words given are not compared with it");
      return;
    }
    String document = document();
    for (int promise = from; promise <= to; promise++) {
      String words = promise == TERMS ? terms(document) : promised(document, promise);
      String got = bare(given.getOrDefault(promise, new StringBuilder()).toString());
      if (!got.equals(bare(words))) {
        due("the words of " + promise + " as given, '" + got + "', unlike '" + bare(words) + "'", 0, 1);
      }
    }
  }

  private static String document() {
    try {
      return Files.readString(DOCUMENT);
    } catch (IOException e) {
      throw new IllegalStateException("no " + DOCUMENT, e);
    }
  }
  private static String promised(String document, int promise) {
    Matcher m = Pattern.compile("(?s)\n## Promise " + promise + ": [^\n]*\n+`[^`]*`: (.*?)\n## ").matcher(document);
    return m.find() ? m.group(1) : "no such promise";
  }
  /** What "Terms" says, without its headings' signs and without which calls stand behind which heading. */
  private static String terms(String document) {
    Matcher m = Pattern.compile("(?s)\n## Terms\n(.*?)\n## Promise 1:").matcher(document);
    if (!m.find()) return "no terms";
    return m.group(1).replaceAll("```(text)?", "").replaceAll("======== \\d", "")
      .replaceAll("Ahead of the calls [^\n]* the interface says: ---- \\d [a-z, ]*\\.?", "");
  }
  private static String bare(String words) { return words.replaceAll("\\s+", ""); }

  /** The calls that take a row as a piece. */
  interface PieceCall { int ask(SandPiano x, int r); }
  record Piece(String name, PieceCall call) { }
  static final Piece[] PIECES = {
    new Piece("judge", (x, r) -> x.judge(r)), new Piece("earns", (x, r) -> x.earns(r)),
    new Piece("digs", (x, r) -> x.digs(r, 4)), new Piece("lasts", (x, r) -> x.lasts(r, 0)),
    new Piece("duet", (x, r) -> x.duet(0, r)), new Piece("tune", (x, r) -> x.tune(r))};
  static void forEachPiece(Consumer<Piece> test) { for (Piece p : PIECES) test.accept(p); }

  /** A piano with all deeds that there can be, none of which moved anything. */
  static SandPiano full(String s) { return withDeeds(s, 60); }
  static SandPiano withDeeds(String s, int n) {
    SandPiano x = piano(s);
    for (int i = 0; i < n; i++) x.tide(0);
    return x;
  }
  /** A call with a number that is not among low .. high is BAD. */
  interface Numbered { int ask(int v); }
  static void badBeyond(String what, SandPiano x, int low, int high, Numbered call) {
    for (int v : new int[] {low - 1, high + 1, LOW, HIGH}) refuses(what + " of " + v, x, BAD, () -> call.ask(v));
  }
  static void findsBeyond(String what, SandPiano x, int finding, int low, int high, Numbered call) {
    for (int v : new int[] {low - 1, high + 1, LOW, HIGH}) finds(what + " of " + v, x, finding, () -> call.ask(v));
  }
  static void fault(String s, int place) {
    SandPiano x = new SandPiano();
    write(x, 1, s);
    due("fault of '" + s + "'", x.fault(1), place);
    due("whether '" + s + "' makes a piano", x.piano(1) >= 0 ? 1 : 0, place == NONE ? 1 : 0);
  }
  /** A key of a piano tells this. */
  static void key(String what, SandPiano x, int i, int kind, int strength, int sand, int pay, int can) {
    int[] want = {kind, strength, sand, pay, can};
    for (int w = 0; w < want.length; w++) {
      due(what + ", key(" + i + ", " + w + ")", x.key(i, w), 1);
      due(what + ", key(" + i + ", " + w + ") told", x.asked(), want[w]);
    }
  }
}
