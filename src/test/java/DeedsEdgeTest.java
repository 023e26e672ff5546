/** The sentences of promises 15 to 22 (deeds), one by one. */
public final class DeedsEdgeTest extends Edges {
  public static void main(String[] args) {
    plays();
    tides();
    storms();
    digs();
    undone();
    can();
    kept();
    quoted(15, 22);
    finish("promises 15 to 22 hold, sentence by sentence");
  }

  private static void plays() {
    says(15, "A KEY is PLAYED: its PAY. ", () -> {
      SandPiano x = piano("p1k9010k9009");
      due("no pay", x.play(0), 0);
      sand("played", x, 0, 0, 1);
      due("the greatest pay", x.play(1), 9);
      sand("played, too", x, 1, 0, 0);
      due("earned", x.count(4), 9);
      due("deeds", x.count(1), 2);
    });
    says(15, "BAD; ", () -> {
      SandPiano x = piano("p1k9010k9009");
      badBeyond("a key", x, 0, 1, i -> x.play(i));
      SandPiano y = new SandPiano();
      refuses("no keys", y, BAD, () -> y.play(0));
    });
    says(15, "STATE: it can't be; ", () -> {
      SandPiano x = piano("p1k3040b3040s3060c3040d3040r0990");
      for (int i = 0; i < 5; i++) { int n = i; refuses("key " + i, x, STATE, () -> x.play(n)); }
      due("a ring can", x.play(5), 0);
    });
    says(15, "FULL: 60 DEEDS. ", () -> {
      SandPiano x = withDeeds("p1r0001", 59);
      due("the sixtieth", x.play(0), 1);
      refuses("one more", x, FULL, () -> x.play(0));
      due("earned", x.count(4), 1);
      x.undo(59);
      due("the sixtieth again", x.play(0), 1);
    });
    says(15, "(FULL last.)", () -> {
      SandPiano x = full("p1k0010r0000");
      refuses("it can't be", x, STATE, () -> x.play(0));
      refuses("no key", x, BAD, () -> x.play(2));
      refuses("it can be", x, FULL, () -> x.play(1));
    });
  }

  private static void tides() {
    says(16, "A TIDE of a HEIGHT: how many grains came. ", () -> {
      SandPiano x = piano("p1k0000k0000k0000");
      due("none", x.tide(0), 0);
      due("a deed all the same", x.count(1), 1);
      due("one", x.tide(1), 1);
      due("more than keys", x.tide(9), 24);
      sand("all", x, 0, 10, 8, 7);
      due("the sea", x.count(3), 25);
      due("not the height: six keys", piano("p1k0000k0000k0000k0000k0000k0000").tide(9), 39);
    });
    says(16, "BAD; ", () -> {
      SandPiano x = piano("p1k0000");
      badBeyond("a height", x, 0, 9, h -> x.tide(h));
    });
    says(16, "STATE: no KEYS; ", () -> {
      SandPiano x = new SandPiano(), y = piano("p1");
      refuses("a new object", x, STATE, () -> x.tide(0));
      refuses("a piano without keys", y, STATE, () -> y.tide(9));
      refuses("BAD ahead", y, BAD, () -> y.tide(10));
    });
    says(16, "FULL. ", () -> {
      SandPiano x = withDeeds("p1k0000", 59);
      due("the sixtieth", x.tide(3), 3);
      refuses("one more", x, FULL, () -> x.tide(3));
      refuses("one more of none", x, FULL, () -> x.tide(0));
    });
    says(16, "(FULL last.)", () -> {
      SandPiano x = full("p1k0000");
      refuses("no height", x, BAD, () -> x.tide(10));
      refuses("a height", x, FULL, () -> x.tide(9));
    });
  }

  private static void storms() {
    says(17, "A STORM to the left (0) or the right (1): how many grains came to the BEACH. ", () -> {
      SandPiano x = piano("p1k0010k0990k0000");
      due("to the left", x.storm(0), 1);
      sand("to the left", x, 1, 99, 0, 0);
      due("to the right, none", x.storm(1), 0);
      sand("to the right, none", x, 1, 0, 99, 0);
      due("to the right, none again", x.storm(1), 0);
      due("to the right", x.storm(1), 99);
      sand("to the right", x, 100, 0, 0, 0);
      due("none left", x.storm(0), 0);
      due("deeds", x.count(1), 5);
      SandPiano one = piano("p1k0070");
      due("one key, to the right", one.storm(1), 7);
      due("one key, none left", one.storm(0), 0);
      due("one key, to the left", piano("p1k0080").storm(0), 8);
    });
    says(17, "BAD; ", () -> {
      SandPiano x = piano("p1k0010");
      badBeyond("a way", x, 0, 1, way -> x.storm(way));
    });
    says(17, "STATE: no KEYS; ", () -> {
      SandPiano x = new SandPiano(), y = piano("p1");
      refuses("a new object", x, STATE, () -> x.storm(0));
      refuses("a piano without keys", y, STATE, () -> y.storm(1));
      refuses("BAD ahead", y, BAD, () -> y.storm(2));
    });
    says(17, "FULL. ", () -> {
      SandPiano x = withDeeds("p1k0050k0060", 59);
      due("the sixtieth", x.storm(1), 6);
      refuses("one more to the left", x, FULL, () -> x.storm(0));
      refuses("one more to the right", x, FULL, () -> x.storm(1));
    });
    says(17, "(FULL last.)", () -> {
      SandPiano x = full("p1k0050");
      refuses("no way", x, BAD, () -> x.storm(2));
      refuses("a way", x, FULL, () -> x.storm(1));
    });
  }

  private static void digs() {
    says(18, "A guest DIGS: how many grains. ", () -> {
      SandPiano x = piano("p4k0000k0060k0040");
      due("none there", x.dig(0), 0);
      due("a deed all the same", x.count(1), 1);
      due("a spade full", x.dig(1), 4);
      due("what is left", x.dig(1), 2);
      due("just a spade full", x.dig(2), 4);
      sand("all", x, 10, 0, 0, 0);
      due("nothing earned", x.count(4), 0);
      due("one that can't be played", piano("p1k0990").dig(0), 1);
    });
    says(18, "BAD; ", () -> {
      SandPiano x = piano("p4k0000k0060");
      badBeyond("a key", x, 0, 1, i -> x.dig(i));
      SandPiano y = new SandPiano();
      refuses("no keys", y, BAD, () -> y.dig(0));
      SandPiano z = full("p4k0000");
      refuses("BAD ahead of FULL", z, BAD, () -> z.dig(1));
    });
    says(18, "FULL.", () -> {
      SandPiano x = withDeeds("p4k0990", 59);
      due("the sixtieth", x.dig(0), 4);
      refuses("one more", x, FULL, () -> x.dig(0));
    });
  }

  /** Six deeds of every kind; the spade is another one since the fourth. */
  private static SandPiano six() {
    SandPiano x = piano("p3k9052b9043");
    x.tide(3);
    x.play(0);
    x.dig(1);
    x.storm(1);
    x.spade(7);
    x.tide(1);
    x.wind(1, 2);
    return x;
  }
  private static void undone() {
    says(19, "DEEDS from number n on are undone ", () -> {
      SandPiano x = six();
      due("six", x.count(1), 6);
      // Lot 96542 of two keys: the first one sounds.
      sand("six", x, 7, 0, 8);
      x.undo(5);
      sand("five", x, 7, 1, 7);
      x.undo(4);
      sand("four", x, 7, 0, 7);
      x.undo(3);
      sand("three", x, 3, 7, 4);
      x.undo(2);
      sand("two", x, 0, 7, 7);
      x.undo(1);
      sand("one", x, 0, 8, 6);
      x.undo(0);
      sand("none", x, 0, 5, 4);
    });
    says(19, "(SAND, the BEACH, what was earned, what the SEA brought; ", () -> {
      SandPiano x = six();
      due("earned", x.count(4), 4);
      due("the sea", x.count(3), 6);
      x.undo(2);
      sand("two", x, 0, 7, 7);
      due("earned by two", x.count(4), 2);
      due("the sea by two", x.count(3), 5);
      x.undo(0);
      sand("none", x, 0, 5, 4);
      due("earned by none", x.count(4), 0);
      due("the sea by none", x.count(3), 0);
    });
    says(19, "the SPADE stays): ", () -> {
      SandPiano x = six();
      x.undo(1);
      due("the spade", x.spade(7), 7);
      due("a spade full", x.dig(0), 7);
      x.undo(0);
      due("the spade again", x.spade(7), 7);
    });
    says(19, "how many. ", () -> {
      SandPiano x = six();
      due("none of six", x.undo(6), 0);
      due("one of six", x.undo(5), 1);
      due("five", x.undo(0), 5);
      due("none of none", x.undo(0), 0);
      SandPiano y = full("p1k0000");
      due("none of sixty", y.undo(60), 0);
      due("sixty", y.undo(0), 60);
      due("no keys", new SandPiano().undo(0), 0);
    });
    says(19, "BAD.", () -> {
      SandPiano x = six();
      badBeyond("of six", x, 0, 6, n -> x.undo(n));
      SandPiano y = new SandPiano();
      badBeyond("of none", y, 0, 0, n -> y.undo(n));
      SandPiano z = full("p1k0000");
      badBeyond("of sixty", z, 0, 60, n -> z.undo(n));
    });
  }

  private static void can() {
    says(20, "KEYS that can be PLAYED (bits).", () -> {
      due("a new object", new SandPiano().can(), 0);
      due("no keys", piano("p1").can(), 0);
      due("none", piano("p1k0010b0010s0030c0010d0010").can(), 0);
      due("all", piano("p1k9090b9090s9110c9090d9090r0990").can(), 63);
      due("every other", piano("p1k9090b9100s9110c9100d9090r0990").can(), 1 + 4 + 16 + 32);
      SandPiano x = piano("p1k0000");
      x.tide(1);
      due("later", x.can(), 0);
      x.dig(0);
      due("later still", x.can(), 1);
      due("it is no deed", x.count(1), 2);
    });
  }

  private static void kept() {
    says(21, "The PIANO (SAND, the BEACH, DEEDS, the SPADE) is kept in a place (0 .. 2): ", () -> {
      SandPiano x = piano("p3k9052k9040");
      x.keep(0);
      x.tide(1); x.dig(0); x.spade(8);
      x.keep(2);
      due("two places", x.count(8), 2);
      x.undo(0); x.storm(0); x.spade(1);
      x.on(2);
      sand("the sand, the beach", x, 3, 3, 4);
      due("the deeds", x.count(1), 2);
      due("the spade", x.spade(8), 8);
      x.undo(1);
      sand("the first deed", x, 0, 6, 4);
      x.on(0);
      sand("the other place", x, 0, 5, 4);
      due("the other spade", x.spade(3), 3);
      x.tide(2);
      x.keep(0);
      due("a place again", x.count(8), 2);
      x.undo(0);
      x.on(0);
      sand("a place again", x, 0, 7, 5);
    });
    says(21, "how many DEEDS. ", () -> {
      SandPiano x = withDeeds("p1k0000", 59);
      due("59", x.keep(1), 59);
      x.tide(0);
      due("sixty", x.keep(1), 60);
      due("none", piano("p1k0000").keep(0), 0);
    });
    says(21, "BAD; ", () -> {
      SandPiano x = piano("p1k0000");
      badBeyond("a place", x, 0, 2, k -> x.keep(k));
    });
    says(21, "STATE: no KEYS.", () -> {
      SandPiano x = new SandPiano(), y = piano("p1");
      refuses("a new object", x, STATE, () -> x.keep(0));
      refuses("a piano without keys", y, STATE, () -> y.keep(2));
      refuses("BAD ahead", y, BAD, () -> y.keep(3));
    });
    says(22, "The PIANO is as it was kept: how many DEEDS. ", () -> {
      SandPiano x = full("p1r0990");
      due("keep(2)", x.keep(2), 60);
      x.undo(58); x.tide(9); x.dig(0); x.spade(4);
      x.keep(0);
      due("sixty", x.on(2), 60);
      sand("sixty", x, 0, 99);
      due("nothing of the sea", x.count(3), 0);
      refuses("full as it was", x, FULL, () -> x.play(0));
      due("the spade of then", x.spade(9), 1);
      x.undo(0);
      due("it stays kept", x.on(2), 60);
      due("sixty again", x.count(1), 60);
      due("the other place", x.on(0), 60);
      sand("the other place", x, 1, 107);
      due("the sea", x.count(3), 9);
      due("places", x.count(8), 2);
      SandPiano y = piano("p1k9013");
      y.play(0); y.keep(1); y.undo(0); y.tide(5);
      due("one", y.on(1), 1);
      due("what was earned", y.count(4), 3);
      due("what the sea brought", y.count(3), 0);
    });
    says(22, "BAD; ", () -> {
      SandPiano x = piano("p1k0000");
      badBeyond("a place", x, 0, 2, k -> x.on(k));
    });
    says(22, "NOTHING.", () -> {
      SandPiano x = piano("p1k0000");
      x.keep(1);
      finds("place 0", x, NOTHING, () -> x.on(0));
      finds("place 2", x, NOTHING, () -> x.on(2));
      x.piano(0);
      finds("a piano that went", x, NOTHING, () -> x.on(1));
      SandPiano y = new SandPiano();
      finds("no keys", y, NOTHING, () -> y.on(0));
    });
  }
}
