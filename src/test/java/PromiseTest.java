/** For each promise of the document its own calls: ordinary ones, the edges that it names, and wrong ones. */
public final class PromiseTest extends Check {
  public static void main(String[] args) {
    newObject(); rows(); moreRows(); texts(); faults(); pianos(); keys(); marks(); spades();
    plays(); tides(); storms(); digsDone(); undone(); kept();
    judged(); earned(); dug(); lasting(); duets(); theMost(); theBest(); countedRows();
    backs(); rings(); strikes(); tunes(); bets(); winds(); told(); counts(); findingsTold(); digests();
    finish("all promises hold");
  }

  private static void newObject() {
    about("promise 1");
    SandPiano x = new SandPiano();
    for (int what = 0; what <= 8; what++) due("count(" + what + ")", x.count(what), 0);
    due("can()", x.can(), 0);
    due("asked()", x.asked(), 0);
    chances("new", x, 0, 1);
    due("finding()", x.finding(), 0);
    for (int f = 1; f <= 5; f++) due("findings(" + f + ")", x.findings(f), 0);
    long h = 17;
    int[] state = {0, 0, 0, 0, 0, 0, 0, 0, 0, 1, -1, -1, -1, -1, -1, -1, -1, -1, -1, -1, -1, -1, -1};
    for (int v : state) h = 31 * h + v;
    due("digest()", x.digest(), h);
    due("BAD", SandPiano.BAD, -1);
    due("FULL", SandPiano.FULL, -2);
    due("FINDING", SandPiano.FINDING, -3);
    due("STATE", SandPiano.STATE, -4);
    due("SPENT", SandPiano.SPENT, -6);
    due("NONE", SandPiano.NONE, -9);
  }

  private static void rows() {
    SandPiano x = new SandPiano();
    about("promise 2");
    due("row(0, 40)", x.row(0, 40), 40);
    due("row(5, 0)", x.row(5, 0), 0);
    refuses("row(0, 41)", x, BAD, () -> x.row(0, 41));
    refuses("row(6, 1)", x, BAD, () -> x.row(6, 1));
    refuses("row(-1, -1)", x, BAD, () -> x.row(-1, -1));
    refuses("row(0, max)", x, BAD, () -> x.row(0, HIGH));
    finds("row(0, -1)", x, SIZE, () -> x.row(0, -1));
    finds("row(0, min)", x, SIZE, () -> x.row(0, LOW));
    x.lay(0, 1, 9);
    due("row(0, 2) anew", x.row(0, 2), 2);
    row("row(0, 2) anew", x, 0, 0, 0);
    about("promise 3");
    due("lay(0, 1, -7)", x.lay(0, 1, -7), 1);
    due("lay, what it was", x.asked(), 0);
    due("lay(0, 1, max)", x.lay(0, 1, HIGH), 1);
    due("lay, what it was", x.asked(), -7);
    row("lay", x, 0, 0, HIGH);
    refuses("lay(6, 0, 0)", x, BAD, () -> x.lay(6, 0, 0));
    refuses("lay(-1, 0, 0)", x, BAD, () -> x.lay(-1, 0, 0));
    finds("lay(1, 0, 0)", x, NOTHING, () -> x.lay(1, 0, 0));
    finds("lay(0, 2, 0)", x, BEYOND, () -> x.lay(0, 2, 0));
    finds("lay(0, -1, 0)", x, BEYOND, () -> x.lay(0, -1, 0));
    finds("lay(5, 0, 0)", x, BEYOND, () -> x.lay(5, 0, 0));
    about("promise 4");
    due("at(0, 1)", x.at(0, 1), 1);
    due("at(0, 1) told", x.asked(), HIGH);
    refuses("at(6, 0)", x, BAD, () -> x.at(6, 0));
    finds("at(4, 0)", x, NOTHING, () -> x.at(4, 0));
    finds("at(0, 2)", x, BEYOND, () -> x.at(0, 2));
    finds("at(0, min)", x, BEYOND, () -> x.at(0, LOW));
    about("promise 5");
    due("tear(0)", x.tear(0), 1);
    finds("tear(0) again", x, NOTHING, () -> x.tear(0));
    finds("at(0, 0) of a torn one", x, NOTHING, () -> x.at(0, 0));
    refuses("tear(6)", x, BAD, () -> x.tear(6));
    refuses("tear(-1)", x, BAD, () -> x.tear(-1));
  }

  private static void moreRows() {
    SandPiano x = new SandPiano();
    about("promise 6");
    fill(x, 0, 1, 2, 3, 4, 5);
    due("copy to the right", x.copy(0, 0, 0, 1, 4), 1);
    row("copy to the right", x, 0, 1, 1, 2, 3, 4);
    due("copy to the left", x.copy(0, 1, 0, 0, 4), 1);
    row("copy to the left", x, 0, 1, 2, 3, 4, 4);
    fill(x, 1, 9, 9, 9);
    due("copy to another", x.copy(0, 3, 1, 1, 2), 1);
    row("copy to another", x, 1, 9, 4, 4);
    row("copy from another", x, 0, 1, 2, 3, 4, 4);
    due("copy none, at the ends", x.copy(0, 5, 1, 3, 0), 1);
    finds("copy none beyond", x, BEYOND, () -> x.copy(0, 6, 1, 0, 0));
    finds("copy too many from", x, BEYOND, () -> x.copy(1, 1, 0, 0, 3));
    finds("copy too many to", x, BEYOND, () -> x.copy(0, 0, 1, 1, 3));
    finds("copy from -1", x, BEYOND, () -> x.copy(0, -1, 1, 0, 1));
    finds("copy to -1", x, BEYOND, () -> x.copy(0, 0, 1, -1, 1));
    finds("copy from max", x, BEYOND, () -> x.copy(0, HIGH, 1, 0, HIGH));
    finds("copy max", x, BEYOND, () -> x.copy(0, 1, 1, 1, HIGH));
    finds("copy from a missing one", x, NOTHING, () -> x.copy(3, 9, 1, 0, 1));
    finds("copy to a missing one", x, NOTHING, () -> x.copy(1, 9, 3, 0, 1));
    finds("copy -1 of a missing one", x, SIZE, () -> x.copy(3, 0, 1, 0, -1));
    refuses("copy from 6", x, BAD, () -> x.copy(6, 0, 1, 0, -1));
    refuses("copy to -1", x, BAD, () -> x.copy(0, 0, -1, 0, 1));
    about("promise 7");
    fill(x, 2, 1, 2, 2);
    due("mean(2)", x.mean(2), 1);
    due("mean(2) told", x.asked(), 1);
    fill(x, 2, 6);
    due("mean(2) of one", x.mean(2), 1);
    due("mean(2) of one, told", x.asked(), 6);
    fill(x, 2, -1, -2, -2);
    x.mean(2);
    due("mean(2), cut", x.asked(), -1);
    fill(x, 2, HIGH, HIGH, HIGH);
    x.mean(2);
    due("mean(2) of great ones", x.asked(), HIGH);
    fill(x, 2, LOW, LOW);
    x.mean(2);
    due("mean(2) of small ones", x.asked(), LOW);
    x.row(2, 0);
    finds("mean of none", x, NOUGHT, () -> x.mean(2));
    finds("mean of a missing one", x, NOTHING, () -> x.mean(5));
    refuses("mean(6)", x, BAD, () -> x.mean(6));
  }

  private static void texts() {
    SandPiano x = new SandPiano();
    about("promise 8");
    due("text(3, 60)", x.text(3, 60), 60);
    due("text(0, 0)", x.text(0, 0), 0);
    due("a blank", x.put(3, 59, 65), 1032);
    due("text(3, 60) anew", x.text(3, 60), 60);
    due("a blank again", x.put(3, 59, 65), 1032);
    refuses("text(0, 61)", x, BAD, () -> x.text(0, 61));
    refuses("text(4, 1)", x, BAD, () -> x.text(4, 1));
    refuses("text(-1, -1)", x, BAD, () -> x.text(-1, -1));
    finds("text(0, -1)", x, SIZE, () -> x.text(0, -1));
    about("promise 9");
    due("put(3, 59, 255)", x.put(3, 59, 255), 1065);
    due("put(3, 59, 128)", x.put(3, 59, 128), 999);
    due("put(3, 59, 127)", x.put(3, 59, 127), 872);
    due("put(3, 59, 256)", x.put(3, 59, 256 + 7), 1127);
    due("put(3, 59, -1)", x.put(3, 59, -1), 1007);
    finds("put(3, 60, 1)", x, BEYOND, () -> x.put(3, 60, 1));
    finds("put(3, -1, 1)", x, BEYOND, () -> x.put(3, -1, 1));
    finds("put(1, 0, 1)", x, NOTHING, () -> x.put(1, 0, 1));
    refuses("put(4, 0, 1)", x, BAD, () -> x.put(4, 0, 1));
    refuses("put(-1, 0, 1)", x, BAD, () -> x.put(-1, 0, 1));
  }

  private static void faultDue(String s, int place) {
    SandPiano x = new SandPiano();
    write(x, 2, s);
    due("fault of '" + s + "'", x.fault(2), place);
    due("piano of '" + s + "'", x.piano(2) < 0 ? 1 : 0, place == NONE ? 0 : 1);
  }

  private static void faults() {
    about("promise 10");
    faultDue("", 0);
    faultDue("   ", 3);
    faultDue("x", 0);
    faultDue("  k", 2);
    faultDue("p", 1);
    faultDue("p 1", 1);
    faultDue("p0", 1);
    faultDue("p:", 1);
    faultDue("p/", 1);
    faultDue("p9", NONE);
    faultDue("  p1  ", NONE);
    faultDue("p12", 2);
    faultDue("p1p1", 2);
    faultDue("p1a1234", 2);
    faultDue("p1K1234", 2);
    faultDue("p1k", 3);
    faultDue("p1k1 ", 4);
    faultDue("p1k12 4", 5);
    faultDue("p1k123", 6);
    faultDue("p1k123x", 6);
    faultDue("p1k1234", NONE);
    faultDue("p1k12345", 7);
    faultDue(" p1  k0000b9999 s1234   c1234d1234r1234  ", NONE);
    faultDue("p1k1234k1234k1234k1234k1234k1234k1234", 32);
    faultDue("p1k1234k1234k1234k1234k1234k1234  x", 34);
    faultDue("p1k1234k1234k1234k1234k1234k1234  ", NONE);
    SandPiano x = new SandPiano();
    finds("fault of a missing text", x, NOTHING, () -> x.fault(1));
    refuses("fault(4)", x, BAD, () -> x.fault(4));
    refuses("fault(-1)", x, BAD, () -> x.fault(-1));
    write(x, 0, "p1k1234");
    x.put(0, 2, 107 + 256);
    due("fault, a letter cut to a byte", x.fault(0), NONE);
  }

  private static void pianos() {
    about("promise 11");
    SandPiano x = new SandPiano();
    write(x, 0, " p3 k5042b3997 ");
    due("piano(0)", x.piano(0), 2);
    sand("piano(0)", x, 0, 4, 99);
    due("its spade", x.spade(3), 3);
    x.tide(5); x.dig(0); x.play(0); x.keep(0); x.keep(2);
    write(x, 1, "p2");
    write(x, 2, "p2k");
    refuses("piano of a text with a fault", x, STATE, () -> x.piano(2));
    finds("piano of a missing text", x, NOTHING, () -> x.piano(3));
    refuses("piano(4)", x, BAD, () -> x.piano(4));
    refuses("piano(-1)", x, BAD, () -> x.piano(-1));
    due("piano(0) anew", x.piano(0), 2);
    sand("piano(0) anew", x, 0, 4, 99);
    due("deeds", x.count(1), 0);
    due("sea", x.count(3), 0);
    due("earned", x.count(4), 0);
    due("kept", x.count(8), 0);
    finds("on(0) of a piano that went", x, NOTHING, () -> x.on(0));
    due("piano(1)", x.piano(1), 0);
    due("no keys", x.count(0), 0);
    due("no bits", x.can(), 0);
  }

  private static void keys() {
    about("promise 12");
    SandPiano x = piano("p1k5057b3044s2041s2050c6001d4063");
    int[][] due = {{0, 5, 5, 7, 1}, {1, 3, 4, 4, 0}, {2, 2, 4, 1, 1}, {2, 2, 5, 0, 0}, {3, 6, 0, 1, 1}, {4, 4, 6, 3, 0}};
    for (int i = 0; i < due.length; i++) {
      for (int what = 0; what < 5; what++) {
        due("key(" + i + ", " + what + ")", x.key(i, what), 1);
        due("key(" + i + ", " + what + ") told", x.asked(), due[i][what]);
      }
    }
    SandPiano y = piano("p1r0991");
    y.key(0, 0);
    due("a ring", y.asked(), 5);
    y.key(0, 4);
    due("a ring always", y.asked(), 1);
    refuses("key(1, 0)", y, BAD, () -> y.key(1, 0));
    refuses("key(-1, 0)", y, BAD, () -> y.key(-1, 0));
    refuses("key(0, 5)", y, BAD, () -> y.key(0, 5));
    refuses("key(0, -1)", y, BAD, () -> y.key(0, -1));
    SandPiano z = new SandPiano();
    refuses("key(0, 0) of none", z, BAD, () -> z.key(0, 0));
  }

  private static void marks() {
    about("promise 13");
    SandPiano x = piano("p2c5000b0031d0010s4050r2991c9000");
    due("a crab by the beach", x.mark(0, 3), 0);
    x.dig(4);
    due("a crab by the beach, later", x.mark(0, 3), 2);
    due("a bass", x.mark(1, 1), 2);
    due("a drum with a grain, as a bass", x.mark(2, 1), 1);
    due("a drum", x.mark(2, 4), 2);
    due("a shell", x.mark(3, 2), 1);
    due("a ring as a shell", x.mark(4, 2), 95);
    due("a ring", x.mark(4, 5), 2);
    due("a crab", x.mark(5, 3), 97);
    finds("a bass as a drum", x, UNLIKE, () -> x.mark(1, 4));
    finds("a shell as a ring", x, UNLIKE, () -> x.mark(3, 5));
    finds("a crab as a bass", x, UNLIKE, () -> x.mark(0, 1));
    finds("a drum as a shell", x, UNLIKE, () -> x.mark(2, 2));
    finds("a ring as a bass", x, UNLIKE, () -> x.mark(4, 1));
    refuses("mark(0, 0)", x, BAD, () -> x.mark(0, 0));
    refuses("mark(0, 6)", x, BAD, () -> x.mark(0, 6));
    refuses("mark(0, -1)", x, BAD, () -> x.mark(0, -1));
    refuses("mark(6, 1)", x, BAD, () -> x.mark(6, 1));
    refuses("mark(-1, 3)", x, BAD, () -> x.mark(-1, 3));
    due("a crab behind the first key", piano("p1k0070c0000").mark(1, 3), 7);
    SandPiano y = piano("p1k5000s9080b9000");
    due("a shell with less", y.mark(1, 2), 0);
    due("an empty bass", y.mark(2, 1), 0);
    finds("a key as a bass", y, UNLIKE, () -> y.mark(0, 1));
  }

  private static void spades() {
    about("promise 14");
    SandPiano x = piano("p4k5990");
    due("spade(9)", x.spade(9), 4);
    due("spade(1)", x.spade(1), 9);
    due("no deed", x.count(1), 0);
    due("dig(0)", x.dig(0), 1);
    refuses("spade(0)", x, BAD, () -> x.spade(0));
    refuses("spade(10)", x, BAD, () -> x.spade(10));
    SandPiano y = new SandPiano();
    refuses("spade(1) of none", y, STATE, () -> y.spade(1));
    refuses("spade(0) of none", y, BAD, () -> y.spade(0));
  }

  private static void plays() {
    about("promise 15");
    SandPiano x = piano("p1k9021b9052d9033k9014");
    due("a key", x.play(0), 1);
    sand("a key", x, 0, 1, 6, 3, 1);
    due("a bass", x.play(1), 2);
    sand("a bass", x, 0, 3, 4, 3, 1);
    due("a drum", x.play(2), 3);
    sand("a drum", x, 0, 3, 5, 1, 2);
    due("the last key", x.play(3), 4);
    sand("the last key", x, 1, 3, 5, 1, 1);
    x.play(2);
    sand("a drum with a grain", x, 1, 3, 6, 0, 1);
    x.play(2);
    sand("an empty drum", x, 1, 3, 6, 0, 1);
    due("earned", x.count(4), 16);
    due("deeds", x.count(1), 6);
    SandPiano y = piano("p1b9030d9010c9009");
    y.play(0);
    sand("the first bass", y, 2, 1, 1, 0);
    y.play(0);
    sand("the first bass with a grain", y, 3, 0, 1, 0);
    due("a crab", y.play(2), 9);
    sand("a crab", y, 3, 0, 0, 1);
    y.play(2);
    sand("a crab, none left", y, 3, 0, 0, 1);
    SandPiano z = piano("p2c9001s3052r0993d9020");
    z.play(0);
    sand("the first crab, an empty beach", z, 0, 0, 5, 99, 2);
    due("a shell", z.play(1), 2);
    due("a ring", z.play(2), 3);
    sand("shells throw none", z, 0, 0, 5, 99, 2);
    z.play(3);
    sand("the last drum", z, 1, 0, 5, 100, 0);
    z.play(0);
    sand("the first crab", z, 0, 1, 5, 100, 0);
    bearing();
  }

  private static void bearing() {
    SandPiano x = piano("p1k3040b3040s3060c3040d3040r0990");
    for (int i = 0; i < 5; i++) {
      int key = i;
      refuses("play(" + i + ") above its strength", x, STATE, () -> x.play(key));
    }
    due("can()", x.can(), 32);
    SandPiano y = piano("p1k3030b3030s3050c3030d3030r0990");
    due("can() all", y.can(), 63);
    refuses("play(6)", y, BAD, () -> y.play(6));
    refuses("play(-1)", y, BAD, () -> y.play(-1));
    SandPiano z = piano("p1k0010r0005");
    for (int i = 0; i < 60; i++) due("play(1)", z.play(1), 5);
    refuses("the 61st note", z, FULL, () -> z.play(1));
    refuses("the 61st that can't be", z, STATE, () -> z.play(0));
    refuses("the 61st of no key", z, BAD, () -> z.play(2));
  }

  private static void tides() {
    about("promise 16");
    SandPiano x = piano("p1k0000k0000k0000");
    due("tide(2)", x.tide(2), 3);
    sand("tide(2)", x, 0, 2, 1, 0);
    due("tide(9)", x.tide(9), 24);
    sand("tide(9)", x, 0, 11, 9, 7);
    due("tide(0)", x.tide(0), 0);
    due("deeds", x.count(1), 3);
    due("sea", x.count(3), 27);
    refuses("tide(10)", x, BAD, () -> x.tide(10));
    refuses("tide(-1)", x, BAD, () -> x.tide(-1));
    for (int i = 0; i < 57; i++) due("tide(1)", x.tide(1), 1);
    refuses("the 61st", x, FULL, () -> x.tide(1));
    refuses("the 61st, bad", x, BAD, () -> x.tide(10));
    SandPiano y = new SandPiano();
    refuses("tide(1) of none", y, STATE, () -> y.tide(1));
    refuses("tide(10) of none", y, BAD, () -> y.tide(10));
  }

  private static void storms() {
    about("promise 17");
    SandPiano x = piano("p1k0010k0020k0030");
    due("storm(0)", x.storm(0), 1);
    sand("storm(0)", x, 1, 2, 3, 0);
    due("storm(1)", x.storm(1), 0);
    sand("storm(1)", x, 1, 0, 2, 3);
    due("storm(1)", x.storm(1), 3);
    sand("storm(1)", x, 4, 0, 0, 2);
    due("deeds", x.count(1), 3);
    refuses("storm(2)", x, BAD, () -> x.storm(2));
    refuses("storm(-1)", x, BAD, () -> x.storm(-1));
    for (int i = 0; i < 57; i++) due("storm(1) again", x.storm(1), i == 0 ? 2 : 0);
    refuses("the 61st", x, FULL, () -> x.storm(1));
    SandPiano y = piano("p1k0070");
    due("one key, storm(0)", y.storm(0), 7);
    due("one key, storm(1)", y.storm(1), 0);
    SandPiano z = new SandPiano();
    refuses("storm(1) of none", z, STATE, () -> z.storm(1));
    refuses("storm(2) of none", z, BAD, () -> z.storm(2));
  }

  private static void digsDone() {
    about("promise 18");
    SandPiano x = piano("p4k0000k0060");
    due("dig(1)", x.dig(1), 4);
    sand("dig(1)", x, 4, 0, 2);
    due("dig(1) of 2", x.dig(1), 2);
    due("dig(0) of none", x.dig(0), 0);
    sand("dig(0)", x, 6, 0, 0);
    due("deeds", x.count(1), 3);
    due("dug keys earn none", x.count(4), 0);
    refuses("dig(2)", x, BAD, () -> x.dig(2));
    refuses("dig(-1)", x, BAD, () -> x.dig(-1));
    for (int i = 0; i < 57; i++) due("dig(0) again", x.dig(0), 0);
    refuses("the 61st", x, FULL, () -> x.dig(0));
    refuses("the 61st, bad", x, BAD, () -> x.dig(2));
    SandPiano y = new SandPiano();
    refuses("dig(0) of none", y, BAD, () -> y.dig(0));
  }

  private static void undone() {
    about("promise 19");
    SandPiano x = piano("p3k9052k9043");
    x.tide(3); x.play(0); x.spade(7); x.dig(1); x.storm(0);
    sand("before", x, 14, 0, 0);
    due("earned", x.count(4), 2);
    due("undo(4)", x.undo(4), 0);
    due("undo(3)", x.undo(3), 1);
    sand("undo(3)", x, 7, 7, 0);
    due("undo(1)", x.undo(1), 2);
    sand("undo(1)", x, 0, 8, 6);
    due("earned, undone", x.count(4), 0);
    due("sea", x.count(3), 5);
    refuses("undo(2)", x, BAD, () -> x.undo(2));
    refuses("undo(-1)", x, BAD, () -> x.undo(-1));
    due("undo(0)", x.undo(0), 1);
    sand("undo(0)", x, 0, 5, 4);
    due("sea, undone", x.count(3), 0);
    due("the spade stays", x.spade(7), 7);
    due("undo(0) again", x.undo(0), 0);
    SandPiano y = new SandPiano();
    due("undo(0) of none", y.undo(0), 0);
    refuses("undo(1) of none", y, BAD, () -> y.undo(1));
  }

  private static void kept() {
    about("promise 20");
    SandPiano c = piano("p1k3031k3040s3050s3060r0990c0010");
    due("can()", c.can(), 1 + 4 + 16);
    about("promise 21");
    SandPiano x = piano("p3k9052c9043");
    due("keep(0)", x.keep(0), 0);
    x.tide(2); x.play(1); x.spade(5);
    due("keep(2)", x.keep(2), 2);
    due("kept pianos", x.count(8), 2);
    refuses("keep(3)", x, BAD, () -> x.keep(3));
    refuses("keep(-1)", x, BAD, () -> x.keep(-1));
    SandPiano y = new SandPiano();
    refuses("keep(0) of none", y, STATE, () -> y.keep(0));
    about("promise 22");
    x.dig(0); x.dig(1); x.spade(9); x.undo(0); x.storm(1); x.storm(1); x.storm(1);
    due("on(2)", x.on(2), 2);
    sand("on(2)", x, 0, 6, 6);
    due("deeds", x.count(1), 2);
    due("sea", x.count(3), 3);
    due("earned", x.count(4), 3);
    due("the spade of then", x.spade(6), 5);
    due("undo(1) of what was kept", x.undo(1), 1);
    sand("undo(1) of what was kept", x, 0, 7, 5);
    due("on(2) again", x.on(2), 2);
    sand("on(2) again", x, 0, 6, 6);
    due("on(0)", x.on(0), 0);
    sand("on(0)", x, 0, 5, 4);
    due("the first spade", x.spade(3), 3);
    due("kept pianos stay", x.count(8), 2);
    finds("on(1)", x, NOTHING, () -> x.on(1));
    refuses("on(3)", x, BAD, () -> x.on(3));
    refuses("on(-1)", x, BAD, () -> x.on(-1));
    finds("on(0) of none", y, NOTHING, () -> y.on(0));
  }

  /** What each call with a piece refuses alike. */
  private interface PieceCall { int ask(SandPiano x, int r); }
  private static void pieceRefusals(PieceCall call) {
    SandPiano x = piano("p1k9001k9001");
    x.keep(0);
    x.row(0, 13);
    fill(x, 1, 0, 2);
    fill(x, 2, -1);
    x.row(3, 12);
    refuses("row 6", x, BAD, () -> call.ask(x, 6));
    refuses("row -1", x, BAD, () -> call.ask(x, -1));
    finds("a missing row", x, NOTHING, () -> call.ask(x, 5));
    finds("13 notes", x, SIZE, () -> call.ask(x, 0));
    finds("no key 2", x, UNLIKE, () -> call.ask(x, 1));
    finds("no key -1", x, UNLIKE, () -> call.ask(x, 2));
    due("12 notes", call.ask(x, 3) >= 0 ? 1 : 0, 1);
    fill(x, 0, 9, 9, 9, 9, 9, 9, 9, 9, 9, 9, 9, 9, 9);
    finds("13 notes, no keys", x, SIZE, () -> call.ask(x, 0));
  }

  private static void judged() {
    about("promise 23");
    SandPiano x = piano("p1c3001k3025b9993");
    fill(x, 0, 1, 1, 1, 0);
    due("judge(0)", x.judge(0), 4);
    due("judge(0) told", x.asked(), 0);
    fill(x, 0, 0, 2, 1);
    due("a note that can't be", x.judge(0), 1);
    x.storm(1);
    due("the beach", x.count(2), 99);
    fill(x, 0, 0, 0, 0, 0, 0);
    due("crabs carry in", x.judge(0), 4);
    due("crabs carry in, told", x.asked(), -4);
    sand("aside", x, 99, 0, 0, 2);
    due("aside, deeds", x.count(1), 1);
    due("aside, earned", x.count(4), 0);
    x.row(1, 0);
    due("an empty piece", x.judge(1), 0);
    due("an empty piece, told", x.asked(), 0);
    SandPiano y = piano("p1k9041");
    fill(y, 0, 0, 0, 0);
    due("to the beach", y.judge(0), 3);
    due("to the beach, told", y.asked(), 3);
    pieceRefusals((p, r) -> p.judge(r));
  }

  private static void earned() {
    about("promise 24");
    SandPiano x = piano("p1c1001k3025r0993");
    x.play(2);
    fill(x, 0, 1, 2, 2, 1);
    due("earns(0)", x.earns(0), 16);
    x.dig(2); x.dig(2); x.dig(2);
    fill(x, 0, 0, 0, 0, 2);
    due("till it can't be", x.earns(0), 2);
    due("aside", x.count(4), 3);
    x.row(0, 0);
    due("an empty piece", x.earns(0), 0);
    pieceRefusals((p, r) -> p.earns(r));
  }

  private static void dug() {
    about("promise 25");
    SandPiano x = piano("p2k1040k1030k1020");
    fill(x, 0, 2, 1, 0);
    due("digs(0, 1)", x.digs(0, 1), 4);
    row("digs(0, 1)", x, 1, 0, 0, 1, 2);
    sand("aside", x, 0, 4, 3, 2);
    due("aside, deeds", x.count(1), 0);
    x.spade(9);
    due("a greater spade", x.digs(0, 1), 3);
    row("a greater spade", x, 1, 0, 1, 2);
    x.spade(1);
    fill(x, 1, 7, 7);
    due("too many", x.digs(0, 1), NONE);
    row("too many, the row stays", x, 1, 7, 7);
    SandPiano t = piano("p1k0040k0050");
    fill(t, 0, 0);
    due("four", t.digs(0, 1), 4);
    row("four", t, 1, 0, 0, 0, 0);
    fill(t, 0, 1);
    due("five", t.digs(0, 1), NONE);
    fill(x, 3, 2);
    due("to itself", x.digs(3, 3), 1);
    row("to itself", x, 3, 2);
    x.row(3, 0);
    due("none needed", x.digs(3, 1), 0);
    row("none needed", x, 1);
    SandPiano y = piano("p1b9010b1010k9000");
    fill(y, 0, 1, 0, 0, 2);
    due("none needed, a row made", y.digs(0, 5), 0);
    row("none needed, a row made", y, 5);
    SandPiano w = piano("p1c0000k9000k0010");
    fill(w, 0, 0, 2);
    due("alike ways", w.digs(0, 5), 1);
    row("alike ways", w, 5, 2);
    SandPiano v = piano("p1k0010k9010k1010");
    fill(v, 0, 1, 2);
    due("of alike ways the first", v.digs(0, 5), 1);
    row("of alike ways the first", v, 5, 1);
    refuses("digs(0, 6)", x, BAD, () -> x.digs(0, 6));
    refuses("digs(5, -1)", x, BAD, () -> x.digs(5, -1));
    pieceRefusals((p, r) -> p.digs(r, 4));
  }

  private static void lasting() {
    about("promise 26");
    SandPiano x = piano("p1k9000k9000");
    fill(x, 0, 1);
    due("lasts(0, 2)", x.lasts(0, 2), 9);
    due("lasts(0, 3)", x.lasts(0, 3), 4);
    due("lasts(0, 9)", x.lasts(0, 9), 1);
    due("lasts(0, 1)", x.lasts(0, 1), 20);
    fill(x, 0, 0, 1);
    due("the first note throws", x.lasts(0, 2), 4);
    sand("aside", x, 0, 0, 0);
    due("aside, sea", x.count(3), 0);
    x.tide(9);
    due("not behind the first", x.lasts(0, 1), 0);
    due("a height of none", x.lasts(0, 0), 20);
    refuses("lasts(0, 10)", x, BAD, () -> x.lasts(0, 10));
    refuses("lasts(5, -1)", x, BAD, () -> x.lasts(5, -1));
    pieceRefusals((p, r) -> p.lasts(r, 0));
  }

  private static void duets() {
    about("promise 27");
    SandPiano x = piano("p1k2021k2010");
    x.keep(1);
    x.tide(1);
    fill(x, 0, 1, 0, 1, 0, 1, 0, 0);
    due("this one can't", x.duet(1, 0), 6);
    fill(x, 0, 1, 0, 1, 0);
    due("all", x.duet(1, 0), 4);
    fill(x, 0, 0, 0);
    due("the first can't", x.duet(1, 0), 0);
    fill(x, 0, 1, 0, 1, 1, 1, 0, 1, 0, 1, 1);
    due("both throw aside", x.duet(1, 0), 10);
    SandPiano y = piano("p1k9050k0000");
    y.keep(0);
    fill(y, 0, 0, 1, 0, 1, 1);
    due("this one throws", y.duet(0, 0), 4);
    fill(y, 0, 1, 0, 1, 1, 1);
    due("the kept one throws", y.duet(0, 0), 3);
    sand("aside", x, 0, 3, 1);
    x.on(1);
    sand("kept aside", x, 0, 2, 1);
    x.tide(2); x.keep(0); x.on(1);
    fill(x, 0, 0, 0);
    due("the kept one can't", x.duet(0, 0), 1);
    x.row(0, 0);
    due("an empty one", x.duet(0, 0), 0);
    finds("no such kept one", x, NOTHING, () -> x.duet(2, 0));
    x.row(0, 13);
    finds("no such kept one, 13 notes", x, NOTHING, () -> x.duet(2, 0));
    refuses("duet(3, 0)", x, BAD, () -> x.duet(3, 0));
    refuses("duet(-1, 5)", x, BAD, () -> x.duet(-1, 5));
    pieceRefusals((p, r) -> p.duet(0, r));
  }

  private static void theMost() {
    about("promise 28");
    SandPiano x = piano("p1k0000k0000k0000");
    due("all of them", x.most(0), 3);
    row("all of them", x, 0, 0, 1, 2);
    SandPiano y = piano("p1b3050k2012k1010");
    due("by another order", y.most(0), 2);
    row("by another order", y, 0, 2, 1);
    SandPiano z = piano("p1k1010k1010k1010");
    due("from the right", z.most(5), 3);
    row("from the right", z, 5, 2, 1, 0);
    sand("aside", z, 0, 1, 1, 1);
    SandPiano t = piano("p1r0000k0990r0000");
    due("of alike ones the first", t.most(5), 2);
    row("of alike ones the first", t, 5, 0, 2);
    SandPiano w = piano("p1k0010");
    fill(w, 1, 4);
    due("none", w.most(1), 0);
    row("none", w, 1);
    refuses("most(6)", w, BAD, () -> w.most(6));
    refuses("most(-1)", w, BAD, () -> w.most(-1));
    SandPiano v = new SandPiano();
    refuses("no keys", v, STATE, () -> v.most(0));
    refuses("no keys, bad", v, BAD, () -> v.most(6));
  }

  private static void theBest() {
    about("promise 29");
    SandPiano x = piano("p1k0005k9021b2025");
    x.play(0);
    due("best(2, 0)", x.best(2, 0), 10);
    row("best(2, 0)", x, 0, 0, 0);
    due("best(0, 0)", x.best(0, 0), 0);
    row("best(0, 0)", x, 0);
    SandPiano y = piano("p1b1011d9029r0992");
    due("best(3, 0)", y.best(3, 0), 27);
    row("best(3, 0)", y, 0, 1, 1, 1);
    SandPiano z = piano("p1k9000c9017k1015");
    due("best(5, 4)", z.best(5, 4), 35);
    row("best(5, 4)", z, 4, 1, 1, 1, 1, 1);
    sand("aside", z, 0, 0, 1, 1);
    due("aside, earned", z.count(4), 0);
    SandPiano w = piano("p1c0009k9010");
    w.dig(1);
    fill(w, 1, 4);
    due("then it can't be", w.best(2, 1), 9);
    row("then it can't be", w, 1, 0, 1);
    SandPiano u = piano("p1c0009");
    u.tide(1); u.storm(0);
    fill(u, 1, 4);
    due("one", u.best(1, 1), 9);
    fill(u, 1, 4);
    due("not so many", u.best(2, 1), NONE);
    row("not so many", u, 1, 4);
    refuses("best(6, 1)", u, BAD, () -> u.best(6, 1));
    refuses("best(-1, 1)", u, BAD, () -> u.best(-1, 1));
    refuses("best(1, 6)", u, BAD, () -> u.best(1, 6));
    SandPiano v = new SandPiano();
    refuses("no keys", v, STATE, () -> v.best(0, 0));
    refuses("no keys, bad", v, BAD, () -> v.best(6, 0));
  }

  private static void countedRows() {
    about("promise 30");
    SandPiano x = piano("p1k9020k9020");
    due("rows(0)", x.rows(0), 1);
    due("rows(0) told", x.asked(), 1);
    due("rows(1)", x.rows(1), 2);
    due("rows(1) told", x.asked(), 2);
    due("rows(2)", x.rows(2), 4);
    due("rows(2) told", x.asked(), 3);
    due("rows(4)", x.rows(4), 16);
    due("rows(4) told", x.asked(), 6);
    sand("aside", x, 0, 2, 2);
    SandPiano y = piano("p1r0000r0000r0000r0000r0000r0000");
    due("six rings", y.rows(4), 1296);
    due("six rings, told", y.asked(), 1);
    SandPiano z = piano("p1k0010");
    due("none", z.rows(1), 0);
    due("none, told", z.asked(), 0);
    // The beaches are unlike, the sands alike.
    SandPiano w = piano("p1r0000c9000");
    w.rows(1);
    due("beaches don't count", w.asked(), 1);
    refuses("rows(5)", x, BAD, () -> x.rows(5));
    refuses("rows(-1)", x, BAD, () -> x.rows(-1));
    SandPiano v = new SandPiano();
    refuses("no keys", v, STATE, () -> v.rows(0));
    refuses("no keys, bad", v, BAD, () -> v.rows(5));
  }

  private static void backs() {
    about("promise 31");
    SandPiano x = piano("p1k9050k9040");
    fill(x, 0, 6, 4);
    due("back(0, 1, 1), not by one", x.back(0, 1, 1), 0);
    finds("the row is not made", x, NOTHING, () -> x.at(1, 0));
    due("back(0, 2, 1)", x.back(0, 2, 1), 2);
    row("back(0, 2, 1)", x, 1, 0, 1);
    due("back(0, 3, 1)", x.back(0, 3, 1), 0);
    row("back(0, 3, 1), the row stays", x, 1, 0, 1);
    fill(x, 0, 6, 3);
    due("back by one", x.back(0, 1, 1), 1);
    row("back by one", x, 1, 0);
    fill(x, 0, 7, 5);
    due("back by three", x.back(0, 3, 1), 0);
    fill(x, 0, 7, 3);
    due("back by three", x.back(0, 3, 1), 3);
    row("back by three", x, 1, 0, 0, 1);
    fill(x, 0, 8, 2);
    due("back by four", x.back(0, 4, 1), 4);
    row("back by four", x, 1, 0, 0, 0, 1);
    fill(x, 0, 5, 4);
    due("back(0, 0, 1)", x.back(0, 0, 1), 1);
    row("back(0, 0, 1)", x, 1);
    fill(x, 0, 6, 4);
    due("to itself", x.back(0, 2, 0), 2);
    row("to itself", x, 0, 0, 1);
    SandPiano y = piano("p9c9010k9010");
    y.dig(1);
    y.row(0, 0);
    y.judge(0);
    fill(y, 0, 0, 1);
    due("the beach was empty", y.back(0, 1, 1), 0);
    due("a grain by the beach", y.back(0, 2, 1), 1);
    row("a grain by the beach", y, 1, 1, 0);
    fill(x, 0, 999, 0);
    due("999", x.back(0, 1, 1), 0);
    fill(x, 0, 1000, 0);
    finds("1000", x, UNLIKE, () -> x.back(0, 1, 1));
    fill(x, 0, 0, -1);
    finds("-1", x, UNLIKE, () -> x.back(0, 1, 1));
    fill(x, 0, -1, 1, 1);
    finds("three of two", x, SIZE, () -> x.back(0, 1, 1));
    fill(x, 0, 1);
    finds("one of two", x, SIZE, () -> x.back(0, 1, 1));
    finds("a missing one", x, NOTHING, () -> x.back(5, 1, 1));
    refuses("back(0, 5, 1)", x, BAD, () -> x.back(0, 5, 1));
    refuses("back(0, -1, 1)", x, BAD, () -> x.back(0, -1, 1));
    refuses("back(6, 0, 1)", x, BAD, () -> x.back(6, 0, 1));
    refuses("back(0, 0, 6)", x, BAD, () -> x.back(0, 0, 6));
    SandPiano v = new SandPiano();
    refuses("no keys", v, STATE, () -> v.back(0, 0, 0));
    refuses("no keys, bad", v, BAD, () -> v.back(0, 5, 0));
  }

  private interface SongCall { int ask(SandPiano x, int r); }
  private static void songRefusals(SongCall call) {
    SandPiano x = piano("p1k0000k0000");
    refuses("row 6", x, BAD, () -> call.ask(x, 6));
    refuses("row -1", x, BAD, () -> call.ask(x, -1));
    finds("a missing row", x, NOTHING, () -> call.ask(x, 0));
    fill(x, 0, 9, 9, 9);
    finds("not even", x, SIZE, () -> call.ask(x, 0));
    fill(x, 0, 2, 1);
    finds("no key 2", x, UNLIKE, () -> call.ask(x, 0));
    fill(x, 0, -1, 1);
    finds("no key -1", x, UNLIKE, () -> call.ask(x, 0));
    fill(x, 0, 1, 2);
    finds("2 for 1", x, UNLIKE, () -> call.ask(x, 0));
    fill(x, 0, 0, 1, 1, -1);
    finds("-1 for 0", x, UNLIKE, () -> call.ask(x, 0));
  }

  private static void rings() {
    about("promise 32");
    SandPiano x = piano("p1k0000k0990k0000k0000k0000k0000");
    x.row(0, 0);
    due("nothing known", x.ring(0), 63);
    fill(x, 0, 0, 1);
    due("the first sang", x.ring(0), 3);
    fill(x, 0, 5, 1);
    due("the last sang", x.ring(0), 48);
    fill(x, 0, 2, 1);
    due("one within sang", x.ring(0), 14);
    fill(x, 0, 2, 0);
    due("one within did not", x.ring(0), 49);
    fill(x, 0, 2, 1, 3, 0);
    due("two", x.ring(0), 2);
    fill(x, 0, 0, 1, 5, 1);
    due("nowhere", x.ring(0), 0);
    x.row(0, 40);
    for (int i = 1; i < 40; i += 2) x.lay(0, i, 1);
    due("twenty pairs", x.ring(0), 3);
    SandPiano v = new SandPiano();
    v.row(0, 0);
    due("no keys", v.ring(0), 0);
    songRefusals((p, r) -> p.ring(r));
  }

  private static void strikes() {
    about("promise 33");
    SandPiano x = piano("p1k0000k0000k0000k0000k0000k0000");
    x.row(0, 0);
    due("nothing known", x.strike(0), 1);
    due("nothing known, told", x.asked(), 3);
    fill(x, 0, 0, 1);
    due("two left", x.strike(0), 2);
    due("two left, told", x.asked(), 1);
    fill(x, 0, 2, 1, 3, 0);
    due("one left", x.strike(0), 0);
    due("one left, told", x.asked(), 1);
    fill(x, 0, 2, 0);
    due("three left", x.strike(0), 0);
    due("three left, told", x.asked(), 2);
    fill(x, 0, 0, 1, 5, 1);
    x.at(0, 2);
    due("nowhere", x.strike(0), NONE);
    due("nowhere, told", x.asked(), 5);
    SandPiano y = piano("p1k0000");
    y.row(0, 0);
    due("one key", y.strike(0), 0);
    due("one key, told", y.asked(), 1);
    SandPiano v = new SandPiano();
    v.row(0, 0);
    due("no keys", v.strike(0), NONE);
    songRefusals((p, r) -> p.strike(r));
  }

  private static void tunes() {
    about("promise 34");
    SandPiano x = piano("p1r0000k0010c1000");
    fill(x, 0, 0);
    due("tune(0)", x.tune(0), 1);
    chances("one of two", x, 1, 2);
    fill(x, 0, 0, 0);
    x.tune(0);
    chances("two notes", x, 1, 4);
    fill(x, 0, 2, 0, 1);
    x.tune(0);
    chances("a crab makes three of two", x, 1, 18);
    fill(x, 0, 0, 1);
    due("one that can't be", x.tune(0), 1);
    chances("one that can't be", x, 0, 1);
    x.row(0, 0);
    due("an empty one", x.tune(0), 1);
    chances("an empty one", x, 1, 1);
    sand("aside", x, 0, 0, 1, 0);
    SandPiano y = piano("p1r0000r0000r0000r0000r0000r0000");
    y.row(0, 12);
    y.tune(0);
    chances("twelve of six", y, 1, 2176782336L);
    finds("refused", y, NOTHING, () -> y.tune(1));
    chances("refused", y, 1, 2176782336L);
    pieceRefusals((p, r) -> p.tune(r));
  }

  private static void bets() {
    about("promise 35");
    SandPiano x = piano("p1k1020c3000");
    due("bet(0, 0)", x.bet(0, 0), 1);
    chances("not now", x, 0, 1);
    x.bet(1, 0);
    chances("now", x, 1, 1);
    x.bet(0, 1);
    chances("behind one", x, 1, 1);
    sand("aside", x, 0, 2, 0);
    SandPiano y = piano("p1r0990c3010r0000");
    y.bet(1, 3);
    chances("a crab carries", y, 26, 27);
    y.bet(1, 4);
    chances("in lowest terms", y, 8, 9);
    y.bet(1, 2);
    chances("too few", y, 1, 1);
    SandPiano z = piano("p1k9010k0000");
    z.bet(1, 1);
    chances("one of two throws", z, 1, 2);
    z.bet(0, 5);
    chances("always", z, 1, 1);
    // Behind a grain to a key of no strength none can be played: the wind rests there.
    SandPiano w = piano("p1c0010c0000");
    w.bet(1, 1);
    chances("it rests", w, 0, 1);
    w.bet(0, 1);
    chances("it goes on", w, 1, 1);
    SandPiano u = piano("p1c0000k0010");
    u.dig(1);
    u.bet(0, 3);
    chances("of two", u, 1, 8);
    SandPiano t = piano("p1c0000");
    t.tide(1); t.storm(0);
    t.bet(0, 5);
    chances("till none can be", t, 0, 1);
    refuses("bet(2, 0)", z, BAD, () -> z.bet(2, 0));
    refuses("bet(-1, 0)", z, BAD, () -> z.bet(-1, 0));
    refuses("bet(0, 6)", z, BAD, () -> z.bet(0, 6));
    refuses("bet(0, -1)", z, BAD, () -> z.bet(0, -1));
    chances("refused", z, 1, 1);
    SandPiano v = new SandPiano();
    refuses("no keys", v, BAD, () -> v.bet(0, 0));
  }

  private static void winds() {
    about("promise 36");
    SandPiano x = piano("p1r0001r0002r0003k0990r0004");
    // 48271, 182605794, 1291394886, 1914720637 modulo 4: 3, 2, 2, 1.
    due("wind(1, 1)", x.wind(1, 1), 1);
    due("the fourth that can be", x.count(4), 4);
    due("wind(4, 1)", x.wind(4, 1), 4);
    due("lots", x.count(4), 4 + 4 + 3 + 3 + 2);
    due("deeds", x.count(1), 5);
    due("undo(3)", x.undo(3), 2);
    due("undone", x.count(4), 4 + 4 + 3);
    refuses("wind(58, 1)", x, FULL, () -> x.wind(58, 1));
    due("the greatest seed", x.wind(57, 2147483646), 57);
    refuses("wind(1, 1) when full", x, FULL, () -> x.wind(1, 1));
    refuses("wind(0, 1)", x, BAD, () -> x.wind(0, 1));
    refuses("wind(61, 1)", x, BAD, () -> x.wind(61, 1));
    refuses("wind(1, 0)", x, BAD, () -> x.wind(1, 0));
    refuses("wind(1, -1)", x, BAD, () -> x.wind(1, -1));
    refuses("wind(1, 2147483647)", x, BAD, () -> x.wind(1, HIGH));
    due("wind(60, 9)", piano("p1r0001").wind(60, 9), 60);
    SandPiano y = piano("p1c1003");
    y.tide(2); y.storm(1);
    due("till none can be", y.wind(58, 7), 2);
    sand("till none can be", y, 0, 2);
    due("earned", y.count(4), 6);
    due("none at all", y.wind(5, 7), 0);
    due("deeds", y.count(1), 4);
    SandPiano v = new SandPiano();
    refuses("no keys", v, STATE, () -> v.wind(1, 1));
    refuses("no keys, bad", v, BAD, () -> v.wind(0, 1));
  }

  private static void told() {
    about("promise 37");
    SandPiano x = piano("p1k9077");
    fill(x, 0, 8);
    x.at(0, 0);
    due("at", x.asked(), 8);
    x.earns(5); x.can(); x.count(0); x.digest(); x.keep(0); x.tide(1); x.undo(0); x.mark(0, 1); x.most(1); x.best(1, 1);
    x.bet(0, 2); x.put(0, 0, 112); x.tear(0); x.at(0, 0); x.key(3, 0); x.rows(9); x.mean(0); x.judge(0); x.lay(0, 0, 3);
    due("stays", x.asked(), 8);
    x.key(0, 2);
    due("key", x.asked(), 7);
    about("promise 38");
    fill(x, 0, 0);
    x.tune(0);
    due("upper", x.upper(), 1);
    about("promise 39");
    due("lower", x.lower(), 1);
    SandPiano y = piano("p1k0000r0000");
    fill(y, 0, 0, 0);
    y.tune(0);
    due("lower of tune", y.lower(), 4);
    y.bet(0, 9); y.tune(5); y.piano(0);
    due("lower stays", y.lower(), 4);
  }

  private static void counts() {
    about("promise 40");
    SandPiano x = piano("p1k9011b9000d9000d9000s9000");
    x.tide(3); x.dig(0); x.play(0); x.keep(1);
    x.row(0, 0); x.row(5, 1); x.row(3, 2); x.tear(3); x.text(3, 0);
    int[] due = {5, 3, 1, 6, 1, 3, 2, 2, 1};
    for (int what = 0; what < due.length; what++) due("count(" + what + ")", x.count(what), due[what]);
    due("a bass ahead", piano("p1b0000k0000d0000").count(5), 2);
    refuses("count(9)", x, BAD, () -> x.count(9));
    refuses("count(-1)", x, BAD, () -> x.count(-1));
    refuses("count(min)", x, BAD, () -> x.count(LOW));
  }

  private static void findingsTold() {
    about("promise 41");
    SandPiano x = new SandPiano();
    x.at(0, 0);
    due("NOTHING", x.finding(), NOTHING);
    x.row(0, 0);
    due("NOTHING stays", x.finding(), NOTHING);
    x.row(9, 0);
    due("BAD is none", x.finding(), NOTHING);
    x.at(0, 0);
    due("BEYOND", x.finding(), BEYOND);
    x.mean(0);
    due("NOUGHT", x.finding(), NOUGHT);
    x.row(0, -1);
    due("SIZE", x.finding(), SIZE);
    x.row(0, 1); x.judge(0);
    due("UNLIKE", x.finding(), UNLIKE);
    about("promise 42");
    x.judge(0); x.judge(1);
    int[] due = {0, 2, 1, 2, 1, 1};
    for (int f = 1; f <= 5; f++) due("findings(" + f + ")", x.findings(f), due[f]);
    refuses("findings(0)", x, BAD, () -> x.findings(0));
    refuses("findings(6)", x, BAD, () -> x.findings(6));
    refuses("findings(-1)", x, BAD, () -> x.findings(-1));
  }

  private static void digests() {
    about("promise 43");
    SandPiano x = piano("p2k1034d5006");
    x.tide(2); x.dig(0);
    x.keep(1);
    x.play(1);
    fill(x, 0, -7, 8);
    x.row(4, 0);
    x.text(3, 2);
    x.put(3, 0, 200);
    int[] state = {2, 3, 2, 3, 6, 1, 2, 2, 1, 2, 0, 1, 4, 4, 0, 4, 5, 0, 6, 1, -1, 2, -1,
      2, -7, 8, -1, -1, -1, 0, -1, 12, 112, 50, 107, 49, 48, 51, 52, 100, 53, 48, 48, 54, -1, -1, 2, -56, 32};
    long h = 17;
    for (int v : state) h = 31 * h + v;
    due("digest()", x.digest(), h);
    due("digest() again", x.digest(), h);
    due("it asks none", x.asked(), 0);
  }
}
