import java.util.ArrayList;
import java.util.List;

/** The sentences of the document's "Terms", one by one. */
public final class TermsEdgeTest extends Edges {
  public static void main(String[] args) {
    refusals();
    findingsAndChances();
    texts();
    kinds();
    played();
    deeds();
    pieces();
    quoted(TERMS, TERMS);
    manyCalls();
    finish("the terms hold");
  }

  private static void refusals() {
    says(TERMS, "Refused is, the first of these that fits, in this order: ", () -> {
      badAheadOfFull();
      badAheadOfState();
      badAheadOfFinding();
      SandPiano x = new SandPiano();
      refuses("STATE ahead of FINDING", x, STATE, () -> x.back(0, 0, 0));
    });
    says(TERMS, "BAD -1 (a number that is none, or not as told), ", () -> {
      due("BAD", SandPiano.BAD, -1);
      due("row(-1, 0)", new SandPiano().row(-1, 0), -1);
      due("row(0, 41)", new SandPiano().row(0, 41), -1);
    });
    says(TERMS, "FULL -2, ", () -> {
      due("FULL", SandPiano.FULL, -2);
      due("dig(0)", full("p1k0000").dig(0), -2);
    });
    says(TERMS, "STATE -4 (not now), ", () -> {
      due("STATE", SandPiano.STATE, -4);
      due("play(0)", piano("p1k0010").play(0), -4);
    });
    says(TERMS, "SPENT -6 (more than told), ", () -> due("SPENT", SandPiano.SPENT, -6));
    says(TERMS, "FINDING -3 (finding() tells which), ", () -> {
      SandPiano x = new SandPiano();
      due("FINDING", SandPiano.FINDING, -3);
      due("tear(0)", x.tear(0), -3);
      due("finding()", x.finding(), 1);
    });
    says(TERMS, "unless a call says so otherwise. ", () -> {
      SandPiano x = full("p1k0010k0000");
      due("STATE ahead of FULL", x.play(0), STATE);
      due("FULL", x.play(1), FULL);
    });
    says(TERMS, "NONE -9. ", () -> {
      due("NONE", SandPiano.NONE, -9);
      SandPiano x = piano("p1k0010");
      due("best(1, 0)", x.best(1, 0), -9);
      due("no finding", x.finding(), 0);
    });
    says(TERMS, "What is refused changes nothing but finding(), findings(). ", TermsEdgeTest::nothingChanges);
  }

  private static void badAheadOfFull() {
    SandPiano x = full("p1k0010");
    refuses("play(1)", x, BAD, () -> x.play(1));
    refuses("tide(10)", x, BAD, () -> x.tide(10));
    refuses("storm(2)", x, BAD, () -> x.storm(2));
    refuses("dig(1)", x, BAD, () -> x.dig(1));
    refuses("wind(61, 1)", x, BAD, () -> x.wind(61, 1));
    refuses("wind(1, 0)", x, BAD, () -> x.wind(1, 0));
  }
  private static void badAheadOfState() {
    SandPiano x = new SandPiano();
    refuses("spade(0)", x, BAD, () -> x.spade(0));
    refuses("play(0)", x, BAD, () -> x.play(0));
    refuses("tide(-1)", x, BAD, () -> x.tide(-1));
    refuses("storm(-1)", x, BAD, () -> x.storm(-1));
    refuses("keep(-1)", x, BAD, () -> x.keep(-1));
    refuses("most(6)", x, BAD, () -> x.most(6));
    refuses("best(6, 0)", x, BAD, () -> x.best(6, 0));
    refuses("best(0, 6)", x, BAD, () -> x.best(0, 6));
    refuses("rows(5)", x, BAD, () -> x.rows(5));
    refuses("back(6, 0, 0)", x, BAD, () -> x.back(6, 0, 0));
    refuses("back(0, 5, 0)", x, BAD, () -> x.back(0, 5, 0));
    refuses("back(0, 0, 6)", x, BAD, () -> x.back(0, 0, 6));
    refuses("wind(0, 1)", x, BAD, () -> x.wind(0, 1));
  }
  private static void badAheadOfFinding() {
    SandPiano x = piano("p1k0010");
    refuses("row(6, -1)", x, BAD, () -> x.row(6, -1));
    refuses("text(4, -1)", x, BAD, () -> x.text(4, -1));
    refuses("lay(6, -1, 0)", x, BAD, () -> x.lay(6, -1, 0));
    refuses("put(4, -1, 0)", x, BAD, () -> x.put(4, -1, 0));
    refuses("copy(0, 0, 6, 0, -1)", x, BAD, () -> x.copy(0, 0, 6, 0, -1));
    refuses("mark(0, 6)", x, BAD, () -> x.mark(0, 6));
    refuses("digs(0, 6), row 0 missing", x, BAD, () -> x.digs(0, 6));
    refuses("lasts(0, 10), row 0 missing", x, BAD, () -> x.lasts(0, 10));
    refuses("duet(3, 0), row 0 missing", x, BAD, () -> x.duet(3, 0));
    refuses("duet(0, 6), none kept", x, BAD, () -> x.duet(0, 6));
    refuses("back(0, 5, 0), row 0 missing", x, BAD, () -> x.back(0, 5, 0));
  }

  /** Two objects alike, of which one is asked all that is refused: they stay alike, also in what only undo and on show. */
  private static void nothingChanges() {
    SandPiano x = busy(), twin = busy();
    for (Call call : refused(x)) due("a refused call", call.ask() < 0 ? 1 : 0, 1);
    alike("busy", x, twin);
    SandPiano y = busyAndFull(), fullTwin = busyAndFull();
    List<Call> calls = List.of(() -> y.play(2), () -> y.tide(3), () -> y.storm(0), () -> y.storm(1), () -> y.dig(2),
      () -> y.wind(1, 7), () -> y.wind(60, 7));
    for (Call call : calls) due("a full piano", call.ask(), FULL);
    alike("full", y, fullTwin);
  }
  private static SandPiano busy() {
    SandPiano x = piano("p2k1034d5006r0991c3022");
    x.tide(2); x.dig(0); x.keep(0); x.play(2); x.spade(5); x.keep(2); x.storm(0);
    fill(x, 0, 3, 1, 4, 1);
    x.row(1, 13);
    x.row(2, 0);
    fill(x, 3, 9);
    x.text(1, 3);
    x.bet(1, 3);
    x.at(0, 2);
    return x;
  }
  private static SandPiano busyAndFull() {
    SandPiano x = busy();
    for (int i = x.count(1); i < 60; i++) x.tide(0);
    return x;
  }
  private static List<Call> refused(SandPiano x) {
    List<Call> all = new ArrayList<>(List.of(() -> x.row(6, 1), () -> x.row(0, 41), () -> x.row(0, -1),
      () -> x.lay(6, 0, 5), () -> x.lay(5, 0, 5), () -> x.lay(0, 4, 5), () -> x.lay(0, -1, 5),
      () -> x.at(6, 0), () -> x.at(5, 0), () -> x.at(0, 4), () -> x.tear(6), () -> x.tear(5)));
    all.addAll(List.of(() -> x.copy(6, 0, 0, 0, 1), () -> x.copy(0, 0, 6, 0, 1), () -> x.copy(0, 0, 1, 0, -1),
      () -> x.copy(0, 0, 5, 0, 1), () -> x.copy(5, 0, 0, 0, 1), () -> x.copy(0, 1, 1, 0, 4), () -> x.copy(1, 0, 0, 1, 4),
      () -> x.mean(6), () -> x.mean(5), () -> x.mean(2)));
    all.addAll(List.of(() -> x.text(4, 1), () -> x.text(0, 61), () -> x.text(0, -1), () -> x.put(4, 0, 5),
      () -> x.put(3, 0, 5), () -> x.put(1, 3, 5), () -> x.put(1, -1, 5), () -> x.fault(4), () -> x.fault(3),
      () -> x.piano(4), () -> x.piano(3), () -> x.piano(1)));
    all.addAll(List.of(() -> x.key(4, 0), () -> x.key(0, 5), () -> x.mark(4, 1), () -> x.mark(0, 0), () -> x.mark(0, 1),
      () -> x.spade(0), () -> x.spade(10), () -> x.play(4), () -> x.play(1), () -> x.tide(10)));
    all.addAll(List.of(() -> x.storm(2), () -> x.dig(4), () -> x.undo(5), () -> x.undo(-1), () -> x.keep(3), () -> x.on(3),
      () -> x.on(1), () -> x.digs(2, 6), () -> x.lasts(2, 10), () -> x.duet(3, 2)));
    for (int r : new int[] {6, 5, 1, 3}) for (Piece piece : PIECES) all.add(() -> piece.call().ask(x, r));
    all.addAll(List.of(() -> x.duet(1, 2), () -> x.most(6), () -> x.best(6, 0), () -> x.best(0, 6), () -> x.rows(5),
      () -> x.back(6, 0, 0), () -> x.back(0, 5, 0), () -> x.back(0, 0, 6), () -> x.back(5, 0, 0), () -> x.back(3, 0, 0)));
    all.addAll(List.of(() -> x.ring(6), () -> x.ring(5), () -> x.ring(3), () -> x.ring(0), () -> x.strike(6), () -> x.strike(5),
      () -> x.strike(3), () -> x.strike(0), () -> x.bet(4, 0), () -> x.bet(0, 6)));
    all.addAll(List.of(() -> x.wind(0, 1), () -> x.wind(61, 1), () -> x.wind(1, 0), () -> x.wind(57, 1), () -> x.count(9),
      () -> x.findings(0), () -> x.findings(6)));
    return all;
  }
  private static void alike(String what, SandPiano x, SandPiano twin) {
    due(what + ", digest()", x.digest(), twin.digest());
    due(what + ", asked()", x.asked(), twin.asked());
    due(what + ", upper()", x.upper(), twin.upper());
    due(what + ", lower()", x.lower(), twin.lower());
    for (int k : new int[] {-1, 0, 2}) {
      if (k >= 0) due(what + ", on(" + k + ")", x.on(k), twin.on(k));
      for (int n = x.count(1); n >= 0; n--) {
        due(what + ", undo(" + n + ") behind on(" + k + ")", x.undo(n), twin.undo(n));
        due(what + ", digest() of it", x.digest(), twin.digest());
      }
    }
  }

  private static void findingsAndChances() {
    says(TERMS, "FINDINGS: 1 NOTHING (a ROW, a TEXT, a kept PIANO that is missing), ", () -> {
      SandPiano x = piano("p1k0000");
      x.row(0, 0);
      finds("a row", x, 1, () -> x.tear(1));
      finds("a text", x, 1, () -> x.fault(1));
      finds("a kept piano", x, 1, () -> x.on(0));
      finds("a kept piano for a duet", x, 1, () -> x.duet(0, 0));
    });
    says(TERMS, "2 BEYOND (a place that there is not), ", () -> {
      SandPiano x = new SandPiano();
      x.row(0, 2);
      x.text(0, 2);
      finds("of a row", x, 2, () -> x.at(0, 2));
      finds("of a text", x, 2, () -> x.put(0, 2, 0));
      finds("of two rows", x, 2, () -> x.copy(0, 1, 0, 0, 2));
    });
    says(TERMS, "3 UNLIKE (a KEY of another KIND; a number that is none), ", () -> {
      SandPiano x = piano("p1k0000");
      fill(x, 0, 1);
      fill(x, 1, -1);
      finds("another kind", x, 3, () -> x.mark(0, 1));
      finds("no key", x, 3, () -> x.judge(0));
      finds("no sand", x, 3, () -> x.back(1, 0, 2));
    });
    says(TERMS, "4 NOUGHT (shared among none; what can't be), ", () -> {
      SandPiano x = new SandPiano();
      x.row(0, 0);
      finds("shared among none", x, 4, () -> x.mean(0));
    });
    says(TERMS, "5 SIZE (fewer than none; too many, not as many as due). ", () -> {
      SandPiano x = piano("p1k0000");
      x.row(0, 13);
      finds("fewer than none", x, 5, () -> x.row(0, -1));
      finds("too many", x, 5, () -> x.judge(0));
      finds("not as many as due", x, 5, () -> x.back(0, 0, 1));
    });
    says(TERMS, "Chances are told by upper(), lower(), in lowest terms, the lower number above 0 (0 by 1). ", () -> {
      // Three grains by three of four notes stop the crab: 9 of 81 ways.
      SandPiano x = piano("p1r0990c3010r0000");
      x.bet(1, 4);
      chances("in lowest terms", x, 8, 9);
      x.bet(0, 4);
      chances("surely", x, 1, 1);
      SandPiano y = piano("p1k0010r0000");
      y.bet(0, 5);
      chances("never", y, 0, 1);
      fill(y, 0, 1, 0);
      y.bet(1, 0);
      y.tune(0);
      chances("never, a tune", y, 0, 1);
    });
    says(TERMS, "Sets (of KEYS) are told by bits. ", () -> {
      due("none", piano("p1k0010").can(), 0);
      due("the first and the last", piano("p1k0000k0010k0010k0010k0010k0000").can(), 1 + 32);
      due("all", piano("p1k0000k0000k0000k0000k0000k0000").can(), 63);
    });
  }

  private static void texts() {
    says(TERMS, "ROWS 0 .. 5 are rows of 0 to 40 ints, ", () -> {
      SandPiano x = new SandPiano();
      for (int r = 0; r <= 5; r++) due("row " + r + " of 40", x.row(r, 40), 40);
      due("the last int", x.lay(5, 39, HIGH), 1);
      for (int r = 0; r <= 5; r++) due("row " + r + " of 0", x.row(r, 0), 0);
      due("rows", x.count(6), 6);
      badBeyond("a row's number", x, 0, 5, r -> x.row(r, 0));
    });
    says(TERMS, "TEXTS 0 .. 3 rows of 0 to 60 bytes, ", () -> {
      SandPiano x = new SandPiano();
      for (int t = 0; t <= 3; t++) due("text " + t + " of 60", x.text(t, 60), 60);
      due("the last byte", x.put(3, 59, 1), 1032);
      for (int t = 0; t <= 3; t++) due("text " + t + " of 0", x.text(t, 0), 0);
      due("texts", x.count(7), 4);
      badBeyond("a text's number", x, 0, 3, t -> x.text(t, 0));
    });
    says(TERMS, "or missing (at first). ", () -> {
      SandPiano x = new SandPiano();
      for (int r = 0; r <= 5; r++) { int n = r; finds("row " + r, x, NOTHING, () -> x.at(n, 0)); }
      for (int t = 0; t <= 3; t++) { int n = t; finds("text " + t, x, NOTHING, () -> x.put(n, 0, 0)); }
    });
    says(TERMS, "A PIANO (without KEYS at first) is a TEXT: ", () -> {
      SandPiano x = new SandPiano();
      due("keys at first", x.count(0), 0);
      write(x, 3, "p1k0000");
      due("a text is no piano yet", x.count(0), 0);
      x.piano(3);
      x.put(3, 4, '9');
      x.text(3, 0);
      key("the text changes, the piano does not", x, 0, 0, 0, 0, 0, 1);
    });
    says(TERMS, "blanks (32) ahead, between, behind as many as wanted, none within items. ", TermsEdgeTest::blanks);
    says(TERMS, "The first item is p (112) and the SPADE (1 .. 9, one figure); ", () -> {
      for (int spade = 1; spade <= 9; spade++) due("spade " + spade, piano("p" + spade + "k0000").spade(1), spade);
      fault("p0", 1);
      fault("p:", 1);
      fault("p10", 2);
      fault("k1234", 0);
      fault("P1", 0);
      fault("o1", 0);
      fault("q1", 0);
      fault("1", 0);
    });
    says(TERMS, "then KEYS (6 at most; 0, 1, .. as they come, from the left): ", () -> {
      due("none", piano("p1").count(0), 0);
      SandPiano x = piano("p1k0001k0002k0003k0004k0005k0006");
      due("six", x.count(0), 6);
      for (int i = 0; i < 6; i++) key("as they come", x, i, 0, 0, 0, i + 1, 1);
      fault("p1k0001k0002k0003k0004k0005k0006k0007", 32);
    });
    says(TERMS, "a letter, the STRENGTH (one figure), the SAND on it (two figures), the PAY (one figure). ", () -> {
      SandPiano x = piano("p1k0000b9999s1234k0105");
      key("least", x, 0, 0, 0, 0, 0, 1);
      key("greatest", x, 1, 1, 9, 99, 9, 0);
      key("unlike ones", x, 2, 2, 1, 23, 4, 0);
      key("ten grains", x, 3, 0, 0, 10, 5, 0);
    });
    faults();
  }

  private static void blanks() {
    String keys = "k1011k1011k1011k1011k1011k1011";
    due("none", piano("p1" + keys).count(0), 6);
    due("all ahead", piano(" ".repeat(28) + "p1" + keys).count(0), 6);
    due("all between", piano("p1" + " ".repeat(28) + keys).count(0), 6);
    due("all behind", piano("p1" + keys + " ".repeat(28)).count(0), 6);
    due("here and there", piano("  p1 k1011   k1011k1011  k1011 k1011    k1011   ").count(0), 6);
    due("no keys, all behind", piano("p1" + " ".repeat(58)).count(0), 0);
    fault("p 1k1011", 1);
    fault("p1k 1011", 3);
    fault("p1k1 011", 4);
    fault("p1k10 11", 5);
    fault("p1k101 1", 6);
    fault("\tp1", 0);
    fault("p1\tk1011", 2);
    fault("p1k1011\n", 7);
    fault("p1" + (char) 0, 2);
    // 160 is a blank elsewhere; 288 is one when cut to a byte.
    fault("p1" + (char) 160, 2);
    fault("p1" + (char) 288 + "k1011", NONE);
  }

  private static void faults() {
    says(TERMS, "A FAULT is the first place at which it can't go on so (a letter, ", () -> {
      for (char letter : "ajlqtzKBSCDR0p-".toCharArray()) {
        fault("p1" + letter + "1011", 2);
        fault("p1  k1011 " + letter + "1011", 10);
      }
      // Cut to a byte: 363 is k, 235 is none.
      fault("p1" + (char) 363 + "1011", NONE);
      fault("p1" + (char) 235 + "1011", 2);
      fault("x1y", 0);
    });
    says(TERMS, "a figure that is none such, ", () -> {
      for (int place = 3; place <= 6; place++) {
        for (char sign : new char[] {'/', ':', ' ', 'k', (char) 176}) {
          StringBuilder s = new StringBuilder("p1k1011 k1011");
          s.setCharAt(place, sign);
          fault(s.toString(), place);
          s = new StringBuilder("p1k1011 k1011");
          s.setCharAt(place + 6, sign);
          fault(s.toString(), place + 6);
        }
      }
      for (char sign : "/0:kp ".toCharArray()) fault("p" + sign, 1);
    });
    says(TERMS, "a seventh KEY: its place; ", () -> {
      String six = "p1k1011b1011s1011c1011d1011r1011";
      fault(six, NONE);
      fault(six + "k1011", 32);
      fault(six + "   k1011", 35);
      fault(six + " k", 33);
    });
    says(TERMS, "the TEXT's size, if its end comes too early, ", () -> {
      String s = " p1k1011";
      for (int n = 0; n < s.length(); n++) if (n != 3) fault(s.substring(0, n), n);
      fault(s.substring(0, 3), NONE);
      fault(s, NONE);
      fault(s + "b", 9);
      fault("p1k1011k1011k1011k1011k1011k101", 31);
      // The same in texts that can't be longer.
      fault(" ".repeat(59) + "p", 60);
      for (int n = 1; n < 5; n++) fault("p1" + " ".repeat(58 - n) + "k1011".substring(0, n), 60);
      fault("p1" + " ".repeat(53) + "k1011", NONE);
    });
    says(TERMS, "or there are blanks alone). ", () -> {
      for (int n : new int[] {0, 1, 2, 59, 60}) fault(" ".repeat(n), n);
    });
  }

  private static void kinds() {
    says(TERMS, "KINDS of KEYS and letters: 0 KEY (k, 107), 1 BASS (b, 98; a KEY), 2 SHELL (s, 115; a KEY), 3 CRAB (c, 99; a KEY), "
        + "4 DRUM (d, 100; a BASS), 5 RING (r, 114; a SHELL). ", () -> {
      SandPiano x = new SandPiano();
      x.text(0, 32);
      int[] letters = {107, 98, 115, 99, 100, 114};
      x.put(0, 0, 112);
      x.put(0, 1, 49);
      for (int i = 2; i < 32; i++) x.put(0, i, i % 5 == 2 ? letters[i / 5] : 48);
      due("piano", x.piano(0), 6);
      // Which kinds each of them is of, kind 0 aside.
      int[][] is = {{}, {1}, {2}, {3}, {1, 4}, {2, 5}};
      for (int i = 0; i < 6; i++) {
        x.key(i, 0);
        due("kind of key " + i, x.asked(), i);
        for (int kind = 1; kind <= 5; kind++) {
          boolean of = false;
          for (int one : is[i]) of |= one == kind;
          due("key " + i + " told as a kind " + kind, x.mark(i, kind) >= 0 ? 1 : 0, of ? 1 : 0);
        }
      }
    });
    says(TERMS, "A KEY can be PLAYED, if its SAND is not above its STRENGTH; ", () -> {
      for (char letter : "kbcd".toCharArray()) {
        due(letter + ", as much as it bears, none", piano("p1" + letter + "0000").can(), 1);
        due(letter + ", 1 above none", piano("p1" + letter + "0010").can(), 0);
        due(letter + ", 1 less than it bears", piano("p1" + letter + "9080").can(), 1);
        due(letter + ", as much as it bears", piano("p1" + letter + "9090").can(), 1);
        due(letter + ", 1 above", piano("p1" + letter + "9100").can(), 0);
      }
    });
    says(TERMS, "a SHELL, if not above that and 2; ", () -> {
      due("as much as 2 above none", piano("p1s0020").can(), 1);
      due("3 above none", piano("p1s0030").can(), 0);
      due("2 above 9", piano("p1s9110").can(), 1);
      due("3 above 9", piano("p1s9120").can(), 0);
    });
    says(TERMS, "a RING always. ", () -> {
      due("99 on none", piano("p1r0990").can(), 1);
      SandPiano x = piano("p1r0990");
      for (int i = 0; i < 59; i++) x.tide(9);
      due("630 on none", x.can(), 1);
      due("630 on none, played", x.play(0), 0);
    });
  }

  private static void played() {
    says(TERMS, "PLAYED, a KEY throws 1 grain to the next KEY on its right; ", () -> {
      SandPiano x = piano("p1k9050k9050k9050");
      x.play(0);
      sand("the first", x, 0, 4, 6, 5);
      x.play(1);
      sand("one within", x, 0, 4, 5, 6);
    });
    says(TERMS, "a BASS 2 to the next one on its left; ", () -> {
      SandPiano x = piano("p1k9050b9050b9050");
      x.play(1);
      sand("one within", x, 0, 7, 3, 5);
      x.play(2);
      sand("the last", x, 0, 7, 5, 3);
    });
    says(TERMS, "a DRUM 1 to the left, then 1 to the right; ", () -> {
      SandPiano x = piano("p1k9050d9050k9050");
      x.play(1);
      sand("a drum", x, 0, 6, 3, 6);
    });
    says(TERMS, "a SHELL, a RING none; ", () -> {
      SandPiano x = piano("p1k9050s9051r9052k9050");
      due("a shell", x.play(1), 1);
      due("a ring", x.play(2), 2);
      sand("none", x, 0, 5, 5, 5, 5);
    });
    says(TERMS, "each no more than lie on it; ", () -> {
      SandPiano x = piano("p1k9000b9000d9000k9000");
      x.play(0); x.play(1); x.play(2); x.play(3);
      sand("empty ones", x, 0, 0, 0, 0, 0);
      SandPiano y = piano("p1k9000b9010d9010k9000");
      y.play(1);
      sand("a bass with a grain", y, 0, 1, 0, 1, 0);
      y.play(2);
      sand("a drum with a grain: to the left first", y, 0, 1, 1, 0, 0);
    });
    says(TERMS, "what goes beyond the first or the last KEY comes to the BEACH. ", () -> {
      SandPiano x = piano("p1b9050k9050");
      x.play(0);
      sand("a bass beyond the first", x, 2, 3, 5);
      x.play(1);
      sand("a key beyond the last", x, 3, 3, 4);
      SandPiano y = piano("p1d9050d9050");
      y.play(0);
      sand("a drum beyond the first", y, 1, 3, 6);
      y.play(1);
      sand("a drum beyond the last", y, 2, 4, 4);
      SandPiano z = piano("p1d9050");
      z.play(0);
      sand("a drum beyond both", z, 2, 3);
    });
    says(TERMS, "A CRAB throws none, but carries 1 grain, if there is one, from the next KEY on its left ", () -> {
      SandPiano x = piano("p1k0010c9050k9050");
      x.play(1);
      sand("the only grain", x, 0, 0, 6, 5);
      x.play(1);
      sand("there is none", x, 0, 0, 6, 5);
    });
    says(TERMS, "(the first KEY: from the BEACH) to itself. ", () -> {
      SandPiano x = piano("p1c9050k9010");
      x.play(0);
      sand("the beach is empty", x, 0, 5, 1);
      x.dig(1);
      x.play(0);
      sand("the only grain of the beach", x, 0, 6, 0);
      x.play(0);
      sand("the beach is empty again", x, 0, 6, 0);
    });
    says(TERMS, "The note earns its PAY. ", () -> {
      SandPiano x = piano("p1k9000k9009");
      due("nothing", x.play(0), 0);
      due("nothing earned", x.count(4), 0);
      due("nine", x.play(1), 9);
      x.play(1);
      due("earned", x.count(4), 18);
    });
  }

  private static void deeds() {
    says(TERMS, "A TIDE of a HEIGHT h (0 .. 9) brings from the SEA h grains to KEY 0, 1 less to each next one, as long as there are any. ", () -> {
      String six = "p1k0000k0000k0000k0000k0000k0000";
      int[][] due = {{0, 0, 0, 0, 0, 0, 0}, {1, 1, 0, 0, 0, 0, 0}, {5, 5, 4, 3, 2, 1, 0}, {6, 6, 5, 4, 3, 2, 1}, {9, 9, 8, 7, 6, 5, 4}};
      int[] came = {0, 1, 15, 21, 39};
      for (int i = 0; i < due.length; i++) {
        SandPiano x = piano(six);
        due("a height of " + due[i][0], x.tide(due[i][0]), came[i]);
        sand("a height of " + due[i][0], x, 0, due[i][1], due[i][2], due[i][3], due[i][4], due[i][5], due[i][6]);
        due("the sea", x.count(3), came[i]);
      }
      SandPiano one = piano("p1k0000");
      due("one key", one.tide(9), 9);
      sand("one key", one, 0, 9);
    });
    says(TERMS, "A STORM moves all SAND by one KEY, to the left (0) or the right (1); ", () -> {
      SandPiano x = piano("p1k0000k0990k0980k0000");
      x.storm(0);
      sand("to the left", x, 0, 99, 98, 0, 0);
      x.storm(1);
      x.storm(1);
      sand("to the right", x, 0, 0, 0, 99, 98);
      SandPiano six = piano("p1k0010k0020k0030k0040k0050k0060");
      six.storm(0);
      sand("six to the left", six, 1, 2, 3, 4, 5, 6, 0);
      six.storm(1);
      sand("six to the right", six, 1, 0, 2, 3, 4, 5, 6);
    });
    says(TERMS, "what lies on the last KEY that way comes to the BEACH. ", () -> {
      SandPiano x = piano("p1k0990k0500k0980");
      x.storm(0);
      sand("to the left", x, 99, 50, 98, 0);
      SandPiano y = piano("p1k0990k0500k0980");
      y.storm(1);
      sand("to the right", y, 98, 0, 99, 50);
      SandPiano one = piano("p1k0070");
      one.storm(1);
      sand("one key", one, 7, 0);
    });
    says(TERMS, "A guest who DIGS takes a SPADE full (no more than lies there) from a KEY to the BEACH. ", () -> {
      SandPiano x = piano("p9k0000k0080k0090k0990");
      due("none there", x.dig(0), 0);
      due("less than a spade", x.dig(1), 8);
      due("a spade full", x.dig(2), 9);
      due("more than a spade", x.dig(3), 9);
      sand("all", x, 26, 0, 0, 0, 90);
    });
    says(TERMS, "NOTES, TIDES, STORMS, DIGS done are DEEDS 0, 1, .. (60 at most). ", () -> {
      SandPiano x = piano("p1r0000");
      x.play(0); x.tide(0); x.storm(0); x.dig(0);
      due("four deeds", x.count(1), 4);
      due("wind's notes", x.wind(55, 1), 55);
      due("the deed number 59", x.play(0), 0);
      due("sixty deeds", x.count(1), 60);
      refuses("a note more", x, FULL, () -> x.play(0));
      refuses("a tide more", x, FULL, () -> x.tide(0));
      refuses("a storm more", x, FULL, () -> x.storm(0));
      refuses("a dig more", x, FULL, () -> x.dig(0));
      refuses("a wind more", x, FULL, () -> x.wind(1, 1));
      due("the last one is number 59", x.undo(59), 1);
      due("room for one again", x.dig(0), 0);
    });
  }

  private static void pieces() {
    says(TERMS, "A PIECE is a ROW of KEYS (12 at most), ", () -> forEachPiece(p -> {
      SandPiano x = piano("p1r0001");
      x.keep(0);
      x.row(0, 12);
      x.row(1, 13);
      due(p.name() + " of 12", p.call().ask(x, 0) >= 0 ? 1 : 0, 1);
      finds(p.name() + " of 13", x, SIZE, () -> p.call().ask(x, 1));
    }));
    says(TERMS, "to be PLAYED one behind the other, from the PIANO as it is, aside. ", () -> forEachPiece(p -> {
      SandPiano x = piano("p1k9051c9052");
      x.tide(1); x.keep(0);
      x.row(4, 0);
      fill(x, 0, 0, 1, 0);
      long before = x.digest();
      due(p.name(), p.call().ask(x, 0) >= 0 ? 1 : 0, 1);
      due(p.name() + " aside", x.digest(), before);
    }));
    says(TERMS, "Rows of KEYS go by their first numbers, then the second ones, .. ", () -> {
      SandPiano x = piano("p1r0001r0001k0990");
      x.best(3, 0);
      row("best", x, 0, 0, 0, 0);
      x.most(0);
      row("most", x, 0, 0, 1);
      SandPiano y = piano("p1r0001k1010k0001");
      y.best(2, 0);
      row("the second ones", y, 0, 0, 0);
      SandPiano z = piano("p1c0002c0002r0001");
      z.dig(0); z.tide(2); z.storm(0);
      sand("one that frees another", z, 2, 1, 0, 0);
      due("one that frees another", z.best(2, 0), 4);
      row("one that frees another", z, 0, 1, 0);
    });
    says(TERMS, "THE WIND PLAYS one of the KEYS that can be PLAYED, all alike likely; ", () -> {
      SandPiano x = piano("p1r0000k0010r0000r0000r0000r0000");
      fill(x, 0, 5);
      x.tune(0);
      chances("one of five", x, 1, 5);
      fill(x, 0, 1);
      x.tune(0);
      chances("one that can't be", x, 0, 1);
    });
    says(TERMS, "where none can be, it PLAYS none, and none from then on. ", () -> {
      SandPiano x = piano("p1c0001");
      x.tide(1); x.storm(0);
      due("till none can be", x.wind(58, 1), 1);
      due("none from then on", x.wind(1, 1), 0);
      due("deeds", x.count(1), 3);
      x.bet(0, 5);
      chances("a bet then", x, 0, 1);
      x.row(0, 1);
      x.tune(0);
      chances("a tune then", x, 0, 1);
    });
    says(TERMS, "(a ROW as PIECE: NOTHING; ", () -> forEachPiece(p -> {
      SandPiano x = piano("p1r0001");
      x.keep(0);
      x.row(0, 0);
      due(p.name() + " of none", p.call().ask(x, 0) >= 0 ? 1 : 0, 1);
      x.tear(0);
      finds(p.name() + ", a missing one", x, NOTHING, () -> p.call().ask(x, 0));
    }));
    says(TERMS, "SIZE: more than 12; ", () -> forEachPiece(p -> {
      SandPiano x = piano("p1r0001");
      x.keep(0);
      for (int n : new int[] {13, 40}) {
        x.row(0, n);
        x.lay(0, 0, 9);
        finds(p.name() + " of " + n + ", ahead of UNLIKE", x, SIZE, () -> p.call().ask(x, 0));
      }
    }));
    says(TERMS, "UNLIKE: no KEY).", () -> forEachPiece(p -> {
      SandPiano x = piano("p1k0010r0001");
      x.keep(0);
      for (int v : new int[] {2, 6, -1, HIGH, LOW}) {
        fill(x, 0, v);
        finds(p.name() + ", a note " + v, x, UNLIKE, () -> p.call().ask(x, 0));
        fill(x, 0, 0, 1, v);
        finds(p.name() + ", a note " + v + " behind one that can't be", x, UNLIKE, () -> p.call().ask(x, 0));
      }
      x.row(0, 12);
      x.lay(0, 11, 2);
      finds(p.name() + ", the last note", x, UNLIKE, () -> p.call().ask(x, 0));
    }));
  }

  /** "An object is used for at most 512 calls": all of them answer. */
  private static void manyCalls() {
    about("512 calls");
    SandPiano x = new SandPiano();
    for (int i = 0; i < 511; i++) x.tear(0);
    due("the last one", x.findings(NOTHING), 511);
  }
}
