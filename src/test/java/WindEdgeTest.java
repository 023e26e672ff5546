import java.math.BigInteger;
import java.util.ArrayList;
import java.util.List;

/** The sentences of promises 34 to 43 (the wind, what is told), one by one. */
public final class WindEdgeTest extends Edges {
  public static void main(String[] args) {
    tunes();
    bets();
    winds();
    asked();
    chancesTold();
    counts();
    findings();
    digests();
    quoted(34, 43);
    finish("promises 34 to 43 hold, sentence by sentence");
  }

  private static void tune(String what, SandPiano x, long upper, long lower, int... notes) {
    fill(x, 0, notes);
    due(what, x.tune(0), 1);
    chances(what, x, upper, lower);
  }
  private static void tunes() {
    says(34, "Chances that THE WIND PLAYS just a PIECE first (its notes one behind the other), ", () -> {
      SandPiano x = piano("p1r0000k0010c1000");
      tune("one of two", x, 1, 2, 2);
      tune("the crab frees the key: then one of three", x, 1, 6, 2, 1);
      tune("and one of three again", x, 1, 18, 2, 0, 1);
      tune("one that can't be yet", x, 0, 1, 0, 1);
      tune("the first can't be", x, 0, 1, 1, 0);
      sand("aside", x, 0, 0, 1, 0);
      due("aside, deeds", x.count(1), 0);
      tune("surely", piano("p1r0000"), 1, 1, 0, 0, 0, 0, 0, 0, 0, 0, 0, 0, 0, 0);
      tune("twelve of six: more than an int", piano("p1r0000r0000r0000r0000r0000r0000"), 1, 2176782336L, 5, 5, 5, 5, 5, 5, 5, 5, 5, 5, 5, 5);
      // The crab stops itself by its second note.
      SandPiano y = piano("p1r0990c1000");
      tune("twice", y, 1, 4, 1, 1);
      tune("a third time", y, 0, 1, 1, 1, 1);
      tune("then surely the other", y, 1, 4, 1, 1, 0, 0, 0);
    });
    says(34, "told by upper(), lower(): 1. ", () -> {
      SandPiano x = piano("p1r0000r0000");
      fill(x, 5, 1);
      due("1", x.tune(5), 1);
      chances("one of two", x, 1, 2);
      due("not asked", x.asked(), 0);
    });
    says(34, "(An empty one: 1 by 1.) ", () -> {
      SandPiano x = piano("p1k0010");
      tune("none can be", x, 1, 1);
      tune("many keys", piano("p1r0000r0000"), 1, 1);
      tune("no keys", new SandPiano(), 1, 1);
    });
    says(34, "BAD; ", () -> {
      SandPiano x = told();
      badBeyond("a row's number", x, 0, 5, r -> x.tune(r));
    });
    says(34, "NOTHING; ", () -> {
      SandPiano x = told();
      finds("missing", x, NOTHING, () -> x.tune(1));
    });
    says(34, "SIZE; ", () -> {
      SandPiano x = told();
      x.row(1, 13);
      x.lay(1, 0, 9);
      finds("13, ahead of UNLIKE", x, SIZE, () -> x.tune(1));
      x.row(1, 12);
      due("12", x.tune(1), 1);
      chances("12", x, 1, 531441);
    });
    says(34, "UNLIKE.", () -> {
      SandPiano x = told();
      for (int v : new int[] {3, -1, LOW, HIGH}) {
        fill(x, 1, 0, v);
        finds("a note " + v, x, UNLIKE, () -> x.tune(1));
      }
      SandPiano y = piano("p1k0010");
      fill(y, 1, 0, 1);
      finds("behind one that can't be", y, UNLIKE, () -> y.tune(1));
    });
  }
  /** Three rings, and chances of 1 by 3 that were told. */
  private static SandPiano told() {
    SandPiano x = piano("p1r0000r0000r0000");
    tune("told", x, 1, 3, 1);
    return x;
  }

  private static void bet(String what, SandPiano x, int i, int n, long upper, long lower) {
    due(what, x.bet(i, n), 1);
    chances(what, x, upper, lower);
  }
  private static void bets() {
    says(35, "Chances that a KEY can be PLAYED behind n (0 .. 5) notes of THE WIND ", () -> {
      SandPiano x = piano("p1k9010k0000");
      bet("now", x, 1, 0, 1, 1);
      bet("behind one of two", x, 1, 1, 1, 2);
      bet("the other", x, 0, 5, 1, 1);
      bet("not now", piano("p1k0010r0000"), 0, 0, 0, 1);
      bet("never", piano("p1k0010r0000"), 0, 5, 0, 1);
      SandPiano y = piano("p1r0990c4000r0000r0000r0000r0000");
      bet("four of six can't stop it", y, 1, 4, 1, 1);
      bet("five of six can", y, 1, 5, 7775, 7776);
      sand("aside", y, 0, 99, 0, 0, 0, 0, 0);
      due("aside, deeds", y.count(1), 0);
      due("aside, earned", y.count(4), 0);
    });
    says(35, "(or fewer, where none can be), ", () -> {
      // Behind crab 0, crab 1, crab 0 none can be played.
      SandPiano x = piano("p2c0020c0000");
      x.dig(0);
      sand("two on the beach", x, 2, 0, 0);
      long[][] due = {{1, 1}, {1, 2}, {3, 4}, {3, 8}, {3, 16}, {3, 32}};
      for (int n = 0; n <= 5; n++) bet("behind " + n, x, 0, n, due[n][0], due[n][1]);
      SandPiano y = piano("p1k0010");
      for (int n = 0; n <= 5; n++) bet("none can be now, " + n, y, 0, n, 0, 1);
    });
    says(35, "told by upper(), lower(): 1. ", () -> {
      SandPiano x = piano("p1k9010k0000");
      due("1", x.bet(1, 1), 1);
      chances("one of two", x, 1, 2);
      due("not asked", x.asked(), 0);
      due("1 of none", x.bet(1, 0), 1);
      chances("surely", x, 1, 1);
    });
    says(35, "BAD.", () -> {
      SandPiano x = told();
      badBeyond("a key", x, 0, 2, i -> x.bet(i, 1));
      badBeyond("how many", x, 0, 5, n -> x.bet(0, n));
      SandPiano y = new SandPiano();
      refuses("no keys", y, BAD, () -> y.bet(0, 0));
    });
  }

  /** Five rings that pay 1 to 5, and a key that can't be played. */
  private static SandPiano rings() { return piano("p1r0001r0002k0019r0003r0004r0005"); }
  private static void earnsByNotes(String what, SandPiano x, int... pays) {
    int earned = 0;
    for (int pay : pays) earned += pay;
    for (int n = pays.length; n > 0; n--) {
      due(what + ", earned by " + n, x.count(4), earned);
      x.undo(n - 1);
      earned -= pays[n - 1];
    }
  }
  private static void winds() {
    says(36, "THE WIND PLAYS n (1 .. 60) notes truly, ", () -> {
      SandPiano x = piano("p1k9050");
      due("one", x.wind(1, 1), 1);
      sand("one", x, 1, 4);
      due("sixty", piano("p1r0000").wind(60, 1), 60);
      SandPiano y = piano("p1k9050");
      due("more than grains", y.wind(60, 1), 60);
      sand("more than grains", y, 5, 0);
    });
    says(36, "by LOTS of a seed: a number comes from the one ahead by 48271 times it modulo 2147483647, ", () -> {
      // 48271, 182605794, 1291394886, 1914720637, 2078669041, 407355683 modulo 5: 1, 4, 1, 2, 1, 3.
      SandPiano x = rings();
      due("six lots of 1", x.wind(6, 1), 6);
      earnsByNotes("six lots of 1", x, 2, 5, 2, 3, 2, 4);
    });
    says(36, "the first from the seed (1 .. 2147483646): ", () -> {
      SandPiano x = rings();
      due("the least seed", x.wind(1, 1), 1);
      due("the least seed earns", x.count(4), 2);
      due("the same seed anew", x.wind(1, 1), 1);
      due("the same seed earns", x.count(4), 4);
      // 2147435376, 1964877853, 856088761, 232763010, 68814606, 1740127964 modulo 5: 1, 3, 1, 0, 1, 4.
      SandPiano y = rings();
      due("the greatest seed", y.wind(6, 2147483646), 6);
      earnsByNotes("the greatest seed", y, 2, 4, 2, 1, 2, 5);
      SandPiano z = rings();
      refuses("a seed of 0", z, BAD, () -> z.wind(1, 0));
      refuses("a seed of 2147483647", z, BAD, () -> z.wind(1, 2147483647));
    });
    says(36, "of KEYS that can be PLAYED the one at it modulo how many there are (the least first); ", () -> {
      // 48271 modulo 1 to 6: 0, 1, 1, 3, 1, 1.
      int[] at = {0, 1, 1, 3, 1, 1};
      for (int keys = 1; keys <= 6; keys++) {
        StringBuilder s = new StringBuilder("p1");
        for (int i = 0; i < keys; i++) s.append("r000").append(i + 1);
        SandPiano x = piano(s.toString());
        x.wind(1, 1);
        due("of " + keys, x.count(4), at[keys - 1] + 1);
      }
      SandPiano y = piano("p1k0011k0012r0003k0014r0005k0016");
      y.wind(1, 1);
      due("the second of two that can be", y.count(4), 5);
    });
    says(36, "till none can be: how many notes. ", () -> {
      SandPiano x = piano("p1c1003");
      x.tide(2); x.storm(1);
      due("two of 58", x.wind(58, 7), 2);
      sand("two", x, 0, 2);
      due("none of 1", x.wind(1, 7), 0);
      due("deeds", x.count(1), 4);
      SandPiano y = piano("p1k0010");
      due("none of 60", y.wind(60, 7), 0);
      due("no deeds", y.count(1), 0);
    });
    says(36, "(These are DEEDS, and earn.) ", () -> {
      SandPiano x = piano("p1k9053");
      x.wind(4, 9);
      due("deeds", x.count(1), 4);
      due("earned", x.count(4), 12);
      due("one undone", x.undo(3), 1);
      due("earned by three", x.count(4), 9);
      sand("three", x, 3, 2);
    });
    says(36, "BAD; ", () -> {
      SandPiano x = rings();
      badBeyond("how many", x, 1, 60, n -> x.wind(n, 1));
      for (int seed : new int[] {0, -1, LOW, HIGH}) refuses("a seed of " + seed, x, BAD, () -> x.wind(1, seed));
    });
    says(36, "STATE: no KEYS; ", () -> {
      SandPiano x = new SandPiano(), y = piano("p1");
      refuses("a new object", x, STATE, () -> x.wind(1, 1));
      refuses("a piano without keys", y, STATE, () -> y.wind(60, 2147483646));
      refuses("BAD ahead, how many", y, BAD, () -> y.wind(61, 1));
      refuses("BAD ahead, a seed", y, BAD, () -> y.wind(1, 0));
    });
    says(36, "FULL: with n more there would be more than 60. ", () -> {
      SandPiano x = withDeeds("p1r0000", 59);
      refuses("59 and 2", x, FULL, () -> x.wind(2, 1));
      refuses("59 and 60", x, FULL, () -> x.wind(60, 1));
      due("59 and 1", x.wind(1, 1), 1);
      refuses("60 and 1", x, FULL, () -> x.wind(1, 1));
      SandPiano y = withDeeds("p1k0010", 1);
      refuses("1 and 60, though none can be played", y, FULL, () -> y.wind(60, 1));
      due("1 and 59, none can be played", y.wind(59, 1), 0);
    });
    says(36, "(FULL last.)", () -> {
      SandPiano x = full("p1r0000");
      refuses("61", x, BAD, () -> x.wind(61, 1));
      refuses("no such seed", x, BAD, () -> x.wind(60, 0));
      refuses("1", x, FULL, () -> x.wind(1, 1));
    });
  }

  private static SandPiano asking() {
    SandPiano x = piano("p1k9041k9052");
    fill(x, 0, 0, 1, 1);
    fill(x, 1, 1, 0);
    x.row(2, 0);
    fill(x, 3, -77);
    x.at(3, 0);
    due("asked ahead", x.asked(), -77);
    return x;
  }
  private static void asks(String what, int want, SandPiano x, Call call) {
    due(what, call.ask() >= 0 ? 1 : 0, 1);
    due(what + " told", x.asked(), want);
    due(what + " told, again", x.asked(), want);
  }
  private static void asked() {
    says(37, "What the latest lay(), at(), mean(), key(), judge(), rows(), strike() ", () -> {
      SandPiano x = asking();
      asks("lay", 1, x, () -> x.lay(0, 1, 1));
      asks("at", 0, x, () -> x.at(0, 0));
      asks("mean", -77, x, () -> x.mean(3));
      asks("key", 5, x, () -> x.key(1, 2));
      asks("judge", 2, x, () -> x.judge(0));
      asks("rows", 5, x, () -> x.rows(4));
      asks("strike", 2, x, () -> x.strike(2));
      asks("at, 0 anew", 0, x, () -> x.at(0, 0));
    });
    says(37, "that was not refused (nor NONE) told; ", () -> {
      SandPiano x = asking();
      x.row(4, 13);
      List<Call> refused = List.of(() -> x.lay(6, 0, 1), () -> x.lay(5, 0, 1), () -> x.lay(0, 3, 1), () -> x.at(6, 0), () -> x.at(0, 3),
        () -> x.mean(6), () -> x.mean(2), () -> x.mean(5), () -> x.key(2, 2), () -> x.key(0, 5));
      List<Call> more = List.of(() -> x.judge(6), () -> x.judge(5), () -> x.judge(4), () -> x.judge(3), () -> x.rows(5), () -> x.rows(-1),
        () -> x.strike(6), () -> x.strike(5), () -> x.strike(3), () -> x.strike(1));
      for (Call call : refused) { due("refused", call.ask() < 0 ? 1 : 0, 1); due("it stays", x.asked(), -77); }
      for (Call call : more) { due("refused or NONE", call.ask() < 0 ? 1 : 0, 1); due("it stays", x.asked(), -77); }
      due("NONE it was", x.strike(1), NONE);
      for (Call call : others(x)) { due("another call", call.ask() < 0 ? 1 : 0, 0); due("it stays", x.asked(), -77); }
    });
    says(37, "0 before.", () -> {
      SandPiano x = new SandPiano();
      due("before any", x.asked(), 0);
      x.row(0, 0);
      x.mean(0);
      x.at(0, 0);
      x.ring(0);
      due("before any that told", x.asked(), 0);
    });
  }
  /** All calls that answer and are not asked for what they told. */
  private static List<Call> others(SandPiano x) {
    List<Call> some = List.of(() -> x.row(5, 3), () -> x.tear(5), () -> x.copy(0, 0, 0, 1, 1), () -> x.text(1, 2), () -> x.put(1, 0, 65),
      () -> x.fault(1), () -> x.spade(2), () -> x.play(0), () -> x.tide(1), () -> x.storm(1), () -> x.dig(1), () -> x.can());
    List<Call> more = List.of(() -> x.keep(0), () -> x.on(0), () -> x.undo(0), () -> x.earns(0), () -> x.digs(0, 5), () -> x.lasts(0, 1),
      () -> x.duet(0, 0), () -> x.most(5), () -> x.best(2, 5), () -> x.back(1, 0, 5), () -> x.ring(2), () -> x.tune(0));
    List<Call> last = List.of(() -> x.bet(0, 2), () -> x.wind(2, 1), () -> (int) x.upper(), () -> (int) x.lower(), () -> x.count(4),
      () -> x.finding(), () -> x.findings(1), () -> x.piano(0));
    List<Call> all = new ArrayList<>(some);
    all.addAll(more);
    all.addAll(last);
    return all;
  }

  private static void chancesTold() {
    says(38, "The upper number of the chances that were told last; ", () -> {
      SandPiano x = piano("p1r0990c3010r0000");
      x.bet(1, 4);
      due("a bet", x.upper(), 8);
      x.row(0, 0);
      x.tune(0);
      due("a tune", x.upper(), 1);
      x.bet(1, 4);
      x.bet(3, 0); x.bet(0, 6); x.tune(6); x.tune(5); x.play(0); x.piano(0); x.judge(0);
      due("refused ones and others told none", x.upper(), 8);
    });
    says(38, "0 before.", () -> {
      SandPiano x = new SandPiano();
      due("before any", x.upper(), 0);
      x.tune(0);
      x.bet(0, 0);
      due("before any that told", x.upper(), 0);
    });
    says(39, "Its lower number; ", () -> {
      SandPiano x = piano("p1r0990c3010r0000");
      x.bet(1, 4);
      due("a bet", x.lower(), 9);
      x.row(0, 0);
      x.tune(0);
      due("a tune", x.lower(), 1);
      x.bet(1, 4);
      x.bet(3, 0); x.bet(0, 6); x.tune(6); x.tune(5); x.play(0); x.piano(0); x.judge(0);
      due("refused ones and others told none", x.lower(), 9);
    });
    says(39, "1 before.", () -> {
      SandPiano x = new SandPiano();
      due("before any", x.lower(), 1);
      x.tune(0);
      x.bet(0, 0);
      due("before any that told", x.lower(), 1);
    });
  }

  private static void counts() {
    says(40, "0 KEYS, ", () -> {
      due("none", new SandPiano().count(0), 0);
      due("six", piano("p1k0000b0000s0000c0000d0000r0000").count(0), 6);
    });
    says(40, "1 DEEDS, ", () -> {
      due("none", piano("p1k0000").count(1), 0);
      due("sixty", full("p1k0000").count(1), 60);
    });
    says(40, "2 grains on the BEACH, ", () -> {
      SandPiano x = piano("p1k0990k0990");
      due("none", x.count(2), 0);
      x.storm(0); x.storm(0);
      due("all", x.count(2), 198);
    });
    says(40, "3 what the SEA brought, ", () -> {
      SandPiano x = piano("p1k0000k0000k0000k0000k0000k0000");
      due("none", x.count(3), 0);
      for (int i = 0; i < 60; i++) x.tide(9);
      due("sixty tides", x.count(3), 2340);
    });
    says(40, "4 what was earned, ", () -> {
      SandPiano x = piano("p1r0009");
      due("none", x.count(4), 0);
      x.wind(60, 1);
      due("sixty notes", x.count(4), 540);
    });
    says(40, "5 BASSES (DRUMS, too), ", () -> {
      due("none", piano("p1k0000s0000c0000r0000").count(5), 0);
      due("of each", piano("p1k0000b0000s0000c0000d0000r0000").count(5), 2);
      due("six", piano("p1d0000b0000d0000b0000d0000d0000").count(5), 6);
    });
    says(40, "6 ROWS, ", () -> {
      SandPiano x = new SandPiano();
      due("none", x.count(6), 0);
      for (int r = 0; r < 6; r++) x.row(r, 0);
      due("six empty ones", x.count(6), 6);
      x.tear(3);
      due("five", x.count(6), 5);
    });
    says(40, "7 TEXTS that are there, ", () -> {
      SandPiano x = new SandPiano();
      due("none", x.count(7), 0);
      for (int t = 0; t < 4; t++) x.text(t, 0);
      due("four empty ones", x.count(7), 4);
    });
    says(40, "8 kept PIANOS. ", () -> {
      SandPiano x = piano("p1k0000");
      due("none", x.count(8), 0);
      for (int k = 0; k < 3; k++) x.keep(k);
      x.keep(1);
      due("three", x.count(8), 3);
      x.on(1);
      due("three still", x.count(8), 3);
      x.piano(0);
      due("none again", x.count(8), 0);
    });
    says(40, "BAD.", () -> {
      SandPiano x = piano("p1k0000");
      badBeyond("what", x, 0, 8, what -> x.count(what));
    });
  }

  private static void findings() {
    says(41, "The latest FINDING ", () -> {
      SandPiano x = new SandPiano();
      x.at(0, 0);
      due("NOTHING", x.finding(), 1);
      x.row(0, 0);
      x.at(0, 0);
      due("BEYOND", x.finding(), 2);
      x.row(0, 1);
      x.judge(0);
      due("UNLIKE", x.finding(), 3);
      x.row(0, 0);
      x.mean(0);
      due("NOUGHT", x.finding(), 4);
      x.row(0, -1);
      due("SIZE", x.finding(), 5);
      x.row(6, 0); x.spade(1); x.strike(0); x.row(0, 3); x.count(9); x.findings(6);
      due("BAD, STATE, NONE and answers are none", x.finding(), 5);
      x.tear(5);
      due("NOTHING again", x.finding(), 1);
    });
    says(41, "(0 before any).", () -> {
      SandPiano x = new SandPiano();
      due("new", x.finding(), 0);
      x.row(6, 0); x.spade(1); x.row(0, 0); x.strike(0); x.best(0, 0);
      due("BAD, STATE, NONE are none", x.finding(), 0);
    });
    says(42, "How often a FINDING (1 .. 5) was answered. ", () -> {
      SandPiano x = new SandPiano();
      for (int f = 1; f <= 5; f++) due("none of " + f, x.findings(f), 0);
      x.row(1, 1);
      x.row(2, 0);
      for (int i = 0; i < 5; i++) x.tear(0);
      for (int i = 0; i < 4; i++) x.at(1, 1);
      for (int i = 0; i < 3; i++) x.judge(1);
      for (int i = 0; i < 2; i++) x.mean(2);
      x.row(0, -1);
      x.row(6, 0);
      x.spade(1);
      for (int f = 1; f <= 5; f++) due("findings(" + f + ")", x.findings(f), 6 - f);
      due("asking counts none", x.findings(1), 5);
      write(x, 0, "p1");
      x.piano(0);
      due("a piano anew forgets none", x.findings(1), 5);
    });
    says(42, "BAD.", () -> {
      SandPiano x = new SandPiano();
      x.tear(0);
      badBeyond("a finding", x, 1, 5, f -> x.findings(f));
    });
  }

  private static void digest(String what, SandPiano x, int... values) {
    BigInteger h = BigInteger.valueOf(17);
    for (int v : values) h = h.multiply(BigInteger.valueOf(31)).add(BigInteger.valueOf(v));
    due(what, x.digest(), h.longValue());
  }
  private static void digests() {
    says(43, "h = 17; then h = 31 h + v for each v: ", () -> {
      SandPiano x = new SandPiano();
      digest("new", x, 0, 0, 0, 0, 0, 0, 0, 0, 0, 1, -1, -1, -1, -1, -1, -1, -1, -1, -1, -1, -1, -1, -1);
      digest("again", x, 0, 0, 0, 0, 0, 0, 0, 0, 0, 1, -1, -1, -1, -1, -1, -1, -1, -1, -1, -1, -1, -1, -1);
    });
    says(43, "count() 0 to 8; ", () -> {
      SandPiano x = piano("p2d9034");
      x.tide(2); x.dig(0); x.play(0); x.keep(0); x.row(0, 0); x.text(0, 0);
      sand("ahead", x, 4, 1);
      digest("counts", x, 1, 3, 4, 2, 4, 1, 1, 1, 1, 2, 4, 9, 1, 4, 1, 3, -1, -1, 0, -1, -1, -1, -1, -1, 0, -1, -1, -1);
    });
    says(43, "the SPADE; ", () -> {
      SandPiano x = piano("p1k0000");
      x.spade(9);
      x.text(0, 0);
      digest("nine", x, 1, 0, 0, 0, 0, 0, 0, 1, 0, 9, 0, 0, 0, 0, 1, -1, -1, -1, -1, -1, -1, -1, -1, -1, 0, -1, -1, -1);
      SandPiano y = piano("p7");
      y.text(0, 0);
      digest("seven, no keys", y, 0, 0, 0, 0, 0, 0, 0, 1, 0, 7, -1, -1, -1, -1, -1, -1, -1, -1, -1, 0, -1, -1, -1);
    });
    says(43, "of each KEY key() 0 to 4; ", () -> {
      SandPiano x = piano("p1k1023b3044s5076c7098d9990r0991");
      x.text(0, 0);
      digest("six", x, 6, 0, 0, 0, 0, 2, 0, 1, 0, 1, 0, 1, 2, 3, 0, 1, 3, 4, 4, 0, 2, 5, 7, 6, 1, 3, 7, 9, 8, 0, 4, 9, 99, 0, 0, 5, 0, 99, 1, 1,
        -1, -1, -1, -1, -1, -1, -1, -1, -1, 0, -1, -1, -1);
    });
    says(43, "of each kept PIANO how many DEEDS (-1: missing); ", () -> {
      SandPiano x = full("p1k0000");
      x.text(0, 0);
      x.keep(2);
      x.undo(0);
      x.keep(1);
      digest("none and sixty", x, 1, 0, 0, 0, 0, 0, 0, 1, 2, 1, 0, 0, 0, 0, 1, -1, 0, 60, -1, -1, -1, -1, -1, -1, 0, -1, -1, -1);
      write(x, 0, "p1k0000");
      x.piano(0);
      x.text(0, 0);
      digest("gone", x, 1, 0, 0, 0, 0, 0, 0, 1, 0, 1, 0, 0, 0, 0, 1, -1, -1, -1, -1, -1, -1, -1, -1, -1, 0, -1, -1, -1);
    });
    says(43, "of each ROW its size (-1: missing) and places, ", () -> {
      SandPiano x = new SandPiano();
      fill(x, 0, LOW, HIGH);
      x.row(4, 0);
      fill(x, 5, -1);
      fill(x, 2, 5, 6, 7);
      x.tear(2);
      digest("rows", x, 0, 0, 0, 0, 0, 0, 3, 0, 0, 1, -1, -1, -1, 2, LOW, HIGH, -1, -1, -1, 0, 1, -1, -1, -1, -1, -1);
      fill(x, 0, 9);
      digest("a shorter one", x, 0, 0, 0, 0, 0, 0, 3, 0, 0, 1, -1, -1, -1, 1, 9, -1, -1, -1, 0, 1, -1, -1, -1, -1, -1);
    });
    says(43, "of each TEXT likewise.", () -> {
      SandPiano x = new SandPiano();
      x.text(0, 2);
      x.put(0, 0, 127);
      x.put(0, 1, 128);
      x.text(1, 0);
      x.text(3, 1);
      digest("texts", x, 0, 0, 0, 0, 0, 0, 0, 3, 0, 1, -1, -1, -1, -1, -1, -1, -1, -1, -1, 2, 127, -128, 0, -1, 1, 32);
      x.put(3, 0, 255);
      digest("a byte below 0", x, 0, 0, 0, 0, 0, 0, 0, 3, 0, 1, -1, -1, -1, -1, -1, -1, -1, -1, -1, 2, 127, -128, 0, -1, 1, -1);
    });
  }
}
