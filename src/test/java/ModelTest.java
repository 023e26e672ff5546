import java.util.Random;

/** Runs of chance calls, the same ones on the class and on the model; every answer must be alike. */
public final class ModelTest {
  private static final String[] CALLS = {"row", "lay", "at", "tear", "copy", "mean", "text", "put", "fault", "piano", "key",
    "mark", "spade", "play", "tide", "storm", "dig", "undo", "can", "keep", "on", "judge", "earns", "digs", "lasts", "duet",
    "most", "best", "rows", "back", "ring", "strike", "tune", "bet", "wind", "asked", "upper", "lower", "count", "finding",
    "findings", "digest", "a text", "a piece", "a song", "a sand", "a new piano"};
  private static final int RUNS = 600;
  private static int wrong = 0;

  private final Random chance;
  private final int run;
  private final SandPiano x = new SandPiano();
  private final Model m = new Model();
  private final StringBuilder story = new StringBuilder();
  private int calls = 0;

  private ModelTest(int run) { this.run = run; this.chance = new Random(run); }

  public static void main(String[] args) {
    for (int run = 1; run <= RUNS && wrong < 5; run++) new ModelTest(run).go();
    System.out.println(wrong == 0 ? "class and model answer alike" : wrong + " runs are not alike");
    if (wrong != 0) System.exit(1);
  }

  private void go() {
    if (chance.nextInt(10) > 0 && !tellPiano()) return;
    while (calls < 480) if (!some(CALLS[chance.nextInt(CALLS.length)])) return;
  }

  private int n(int most) { return chance.nextInt(most + 1); }
  /** Mostly 0 .. most, at times a number beside or far from it. */
  private int near(int most) {
    if (chance.nextInt(12) > 0) return n(most);
    int[] far = {-1, most + 1, Integer.MIN_VALUE, Integer.MAX_VALUE, most + 2, -2};
    return far[chance.nextInt(far.length)];
  }

  private boolean alike(String call, long got, long due) {
    calls++;
    if (story.length() < 20000) story.append(call).append(" = ").append(due).append('\n');
    if (got == due) return true;
    wrong++;
    System.out.println("run " + run + ", call " + calls + ": " + call + " answered " + got + ", the model " + due);
    if (wrong == 1) System.out.println(story);
    return false;
  }
  private boolean put(int t, int i, int v) { return alike("put(" + t + ", " + i + ", " + v + ")", x.put(t, i, v), m.put(t, i, v)); }
  private boolean lay(int r, int i, int v) { return alike("lay(" + r + ", " + i + ", " + v + ")", x.lay(r, i, v), m.lay(r, i, v)); }

  private String blanks() { return " ".repeat(Math.max(0, chance.nextInt(5) - 2)); }
  private String pianoText() {
    StringBuilder s = new StringBuilder(blanks()).append('p').append(1 + n(8));
    int size = chance.nextInt(12) == 0 ? n(7) : 1 + n(5);
    int top = chance.nextInt(3) == 0 ? 99 : 3 + n(6);
    String kinds = chance.nextInt(3) == 0 ? "kbcd" : "kbscdr";
    for (int i = 0; i < size; i++) {
      int sand = n(top);
      s.append(blanks()).append(kinds.charAt(chance.nextInt(kinds.length()))).append(n(9));
      s.append(sand / 10).append(sand % 10).append(n(9));
    }
    s.append(blanks());
    return s.length() > 60 ? s.substring(0, 60) : s.toString();
  }
  private boolean writeText(int t, String s) {
    if (!alike("text(" + t + ", " + s.length() + ")", x.text(t, s.length()), m.text(t, s.length()))) return false;
    for (int i = 0; i < s.length(); i++) if (s.charAt(i) != ' ' && !put(t, i, s.charAt(i))) return false;
    return true;
  }
  private boolean tellPiano() {
    int t = n(3);
    return writeText(t, pianoText()) && alike("piano(" + t + ")", x.piano(t), m.piano(t));
  }
  private boolean writeRow(int size, int evenTop, int oddTop) {
    int r = n(5);
    if (!alike("row(" + r + ", " + size + ")", x.row(r, size), m.row(r, size))) return false;
    for (int i = 0; i < size; i++) {
      if (!lay(r, i, chance.nextInt(60) == 0 ? near(9) : n(i % 2 == 0 ? evenTop : oddTop))) return false;
    }
    return true;
  }

  private boolean some(String call) {
    int r = near(5), t = near(3), i = near(5), k = near(2), a = near(40), b = near(40), c = near(20);
    switch (call) {
      case "row": return alike("row(" + r + ", " + a + ")", x.row(r, a), m.row(r, a));
      case "lay": return lay(r, i, chance.nextInt(4) == 0 ? chance.nextInt() : n(5));
      case "at": return alike("at(" + r + ", " + i + ")", x.at(r, i), m.at(r, i)) && some("asked");
      case "tear": return chance.nextInt(3) > 0 || alike("tear(" + r + ")", x.tear(r), m.tear(r));
      case "copy": {
        int to = near(5);
        return alike("copy(" + r + ", " + i + ", " + to + ", " + b + ", " + c + ")", x.copy(r, i, to, b, c), m.copy(r, i, to, b, c))
          && alike("copy(" + r + ", " + i + ", " + r + ", " + k + ", 3)", x.copy(r, i, r, k, 3), m.copy(r, i, r, k, 3));
      }
      case "mean": return alike("mean(" + r + ")", x.mean(r), m.mean(r)) && some("asked");
      case "text": return chance.nextInt(4) > 0 || alike("text(" + t + ", " + a * 3 / 2 + ")", x.text(t, a * 3 / 2), m.text(t, a * 3 / 2));
      case "put": return put(t, i, chance.nextInt(2) == 0 ? chance.nextInt() : "pkbscdr 0123456789".charAt(n(17)));
      case "fault": return alike("fault(" + t + ")", x.fault(t), m.fault(t));
      case "piano": return chance.nextInt(4) > 0 || alike("piano(" + t + ")", x.piano(t), m.piano(t));
      case "key": { int w = near(4); return alike("key(" + i + ", " + w + ")", x.key(i, w), m.key(i, w)) && some("asked"); }
      case "mark": { int w = near(5); return alike("mark(" + i + ", " + w + ")", x.mark(i, w), m.mark(i, w)); }
      case "spade": { int w = near(9); return alike("spade(" + w + ")", x.spade(w), m.spade(w)); }
      case "play": return alike("play(" + i + ")", x.play(i), m.play(i));
      case "tide": { int h = chance.nextInt(3) > 0 ? n(2) : near(9); return alike("tide(" + h + ")", x.tide(h), m.tide(h)); }
      case "storm": { int w = near(1); return alike("storm(" + w + ")", x.storm(w), m.storm(w)); }
      case "dig": return alike("dig(" + i + ")", x.dig(i), m.dig(i));
      case "undo": { int w = near(60); return alike("undo(" + w + ")", x.undo(w), m.undo(w)); }
      case "can": return alike("can()", x.can(), m.can());
      case "keep": return alike("keep(" + k + ")", x.keep(k), m.keep(k));
      case "on": return alike("on(" + k + ")", x.on(k), m.on(k));
      case "judge": return alike("judge(" + r + ")", x.judge(r), m.judge(r)) && some("asked");
      case "earns": return alike("earns(" + r + ")", x.earns(r), m.earns(r));
      case "digs": { int to = near(5); return alike("digs(" + r + ", " + to + ")", x.digs(r, to), m.digs(r, to)) && some("digest"); }
      case "lasts": { int h = near(9); return alike("lasts(" + r + ", " + h + ")", x.lasts(r, h), m.lasts(r, h)); }
      case "duet": return alike("duet(" + k + ", " + r + ")", x.duet(k, r), m.duet(k, r));
      case "most": return chance.nextInt(3) > 0 || alike("most(" + r + ")", x.most(r), m.most(r)) && some("digest");
      case "best": { int w = near(4) + n(1); return alike("best(" + w + ", " + r + ")", x.best(w, r), m.best(w, r)) && some("digest"); }
      case "rows": { int w = near(4); return alike("rows(" + w + ")", x.rows(w), m.rows(w)) && some("asked"); }
      case "back": {
        int w = near(4), to = near(5);
        return alike("back(" + r + ", " + w + ", " + to + ")", x.back(r, w, to), m.back(r, w, to)) && some("digest");
      }
      case "ring": return alike("ring(" + r + ")", x.ring(r), m.ring(r));
      case "strike": return alike("strike(" + r + ")", x.strike(r), m.strike(r)) && some("asked");
      case "tune": return alike("tune(" + r + ")", x.tune(r), m.tune(r)) && some("upper") && some("lower");
      case "bet": { int w = near(5); return alike("bet(" + i + ", " + w + ")", x.bet(i, w), m.bet(i, w)) && some("upper") && some("lower"); }
      case "wind": {
        int notes = chance.nextInt(3) > 0 ? n(6) : near(60);
        int seed = chance.nextInt(3) > 0 ? chance.nextInt() & Integer.MAX_VALUE : near(3);
        return alike("wind(" + notes + ", " + seed + ")", x.wind(notes, seed), m.wind(notes, seed)) && some("digest");
      }
      case "asked": return alike("asked()", x.asked(), m.asked());
      case "upper": return alike("upper()", x.upper(), m.upper());
      case "lower": return alike("lower()", x.lower(), m.lower());
      case "count": { int w = near(8); return alike("count(" + w + ")", x.count(w), m.count(w)); }
      case "finding": return alike("finding()", x.finding(), m.finding());
      case "findings": { int w = near(5); return alike("findings(" + w + ")", x.findings(w), m.findings(w)); }
      case "digest": return alike("digest()", x.digest(), m.digest());
      case "a text": {
        int to = n(3);
        return chance.nextInt(4) > 0
          || writeText(to, pianoText()) && (chance.nextInt(2) == 0 || put(to, n(60), 32 + n(90))) && alike("fault(" + to + ")", x.fault(to), m.fault(to));
      }
      case "a piece": return writeRow(n(13), Math.max(0, m.count(0) - 1), Math.max(0, m.count(0) - 1));
      case "a song": return writeRow(2 * n(3) + (chance.nextInt(8) == 0 ? 1 : 0), Math.max(0, m.count(0) - 1), 1);
      case "a sand": return sandAndBack();
      default: return chance.nextInt(8) > 0 || tellPiano();
    }
  }

  /** The sand as it is, some notes, and back from there. */
  private boolean sandAndBack() {
    int size = m.count(0), r = n(5), to = n(5), notes = n(4);
    if (!alike("row(" + r + ", " + size + ")", x.row(r, size), m.row(r, size))) return false;
    for (int i = 0; i < size; i++) {
      if (!alike("key(" + i + ", 2)", x.key(i, 2), m.key(i, 2)) || !lay(r, i, keySand(i))) return false;
    }
    int seed = 1 + n(1000000);
    if (notes > 0 && !alike("wind(" + notes + ", " + seed + ")", x.wind(notes, seed), m.wind(notes, seed))) return false;
    return alike("back(" + r + ", " + notes + ", " + to + ")", x.back(r, notes, to), m.back(r, notes, to)) && some("digest");
  }
  private int keySand(int i) {
    m.key(i, 2);
    x.key(i, 2);
    calls++;
    return m.asked();
  }
}
