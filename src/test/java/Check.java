/** What the tests share: answers compared with those that are due, and short ways to tell rows, texts and pianos. */
abstract class Check {
  static final int BAD = -1, FULL = -2, FINDING = -3, STATE = -4, NONE = -9;
  static final int NOTHING = 1, BEYOND = 2, UNLIKE = 3, NOUGHT = 4, SIZE = 5;
  static final int LOW = Integer.MIN_VALUE, HIGH = Integer.MAX_VALUE;
  private static int wrong = 0;
  private static int compared = 0;
  private static String subject = "";

  interface Call { int ask(); }

  /** What the comparisons from now on are about. */
  static void about(String what) { subject = what; }
  static int comparisons() { return compared; }
  static void finish(String allIsWell) {
    System.out.println(wrong == 0 ? allIsWell : wrong + " answers are not as due");
    if (wrong != 0) System.exit(1);
  }

  static void due(String what, long got, long want) {
    compared++;
    if (got == want) return;
    wrong++;
    System.out.println(subject + ": " + what + " answered " + got + ", due is " + want);
  }
  /** A call that must answer FINDING, with the finding told and counted once, and nothing else changed. */
  static void finds(String what, SandPiano x, int finding, Call call) {
    int all = findingsOf(x);
    int before = x.findings(finding);
    Shown shown = new Shown(x);
    due(what, call.ask(), FINDING);
    due(what + ", finding()", x.finding(), finding);
    due(what + ", findings()", x.findings(finding), before + 1);
    due(what + ", all findings", findingsOf(x), all + 1);
    shown.stays(what, x);
  }
  /** A call that is refused without a finding and changes nothing. */
  static void refuses(String what, SandPiano x, int answer, Call call) {
    int all = findingsOf(x);
    int finding = x.finding();
    Shown shown = new Shown(x);
    due(what, call.ask(), answer);
    due(what + ", all findings", findingsOf(x), all);
    due(what + ", finding()", x.finding(), finding);
    shown.stays(what, x);
  }
  private static int findingsOf(SandPiano x) {
    int all = 0;
    for (int f = 1; f <= 5; f++) all += x.findings(f);
    return all;
  }
  /** What an object tells of itself, findings aside. */
  private record Shown(long digest, int asked, long upper, long lower) {
    Shown(SandPiano x) { this(x.digest(), x.asked(), x.upper(), x.lower()); }
    void stays(String what, SandPiano x) {
      due(what + ", digest()", x.digest(), digest);
      due(what + ", asked()", x.asked(), asked);
      due(what + ", upper()", x.upper(), upper);
      due(what + ", lower()", x.lower(), lower);
    }
  }

  static void write(SandPiano x, int t, String s) {
    x.text(t, s.length());
    for (int i = 0; i < s.length(); i++) x.put(t, i, s.charAt(i));
  }
  static SandPiano piano(String s) {
    SandPiano x = new SandPiano();
    write(x, 0, s);
    if (x.piano(0) < 0) due("piano(" + s + ")", -1, 0);
    return x;
  }
  static void fill(SandPiano x, int r, int... values) {
    x.row(r, values.length);
    for (int i = 0; i < values.length; i++) x.lay(r, i, values[i]);
  }
  /** A row holds just these. */
  static void row(String what, SandPiano x, int r, int... values) {
    for (int i = 0; i < values.length; i++) {
      due(what + ", place " + i, x.at(r, i), 1);
      due(what + ", place " + i + " told", x.asked(), values[i]);
    }
    due(what + ", its end", x.at(r, values.length), FINDING);
    due(what + ", what is at its end", x.finding(), BEYOND);
  }
  /** So much lies on the beach and on the keys. */
  static void sand(String what, SandPiano x, int beach, int... values) {
    due(what + ", keys", x.count(0), values.length);
    for (int i = 0; i < values.length; i++) {
      x.key(i, 2);
      due(what + ", sand on " + i, x.asked(), values[i]);
    }
    due(what + ", beach", x.count(2), beach);
  }
  static void chances(String what, SandPiano x, long upper, long lower) {
    due(what + ", upper()", x.upper(), upper);
    due(what + ", lower()", x.lower(), lower);
  }
}
