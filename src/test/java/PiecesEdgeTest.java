import java.util.Arrays;

/** The sentences of promises 23 to 33 (pieces, the most, the best, what was played, the ring), one by one. */
public final class PiecesEdgeTest extends Edges {
  public static void main(String[] args) {
    judged();
    earned();
    dug();
    lasting();
    duets();
    theMost();
    theBest();
    counted();
    backs();
    rings();
    strikes();
    quoted(23, 33);
    finish("promises 23 to 33 hold, sentence by sentence");
  }

  private static int[] notes(int n, int note) {
    int[] all = new int[n];
    Arrays.fill(all, note);
    return all;
  }
  private static SandPiano twoKeys() {
    SandPiano x = piano("p1k9001k9001");
    x.keep(0);
    return x;
  }
  private static void pieceBad(int promise, PieceCall call) {
    says(promise, "BAD; ", () -> {
      SandPiano x = twoKeys();
      badBeyond("a row's number", x, 0, 5, r -> call.ask(x, r));
    });
  }
  private static void pieceSizeAndUnlike(int promise, PieceCall call) {
    says(promise, "SIZE; ", () -> {
      SandPiano x = twoKeys();
      x.row(1, 12);
      due("12", call.ask(x, 1) >= 0 ? 1 : 0, 1);
      x.row(1, 13);
      finds("13", x, SIZE, () -> call.ask(x, 1));
      x.row(1, 40);
      x.lay(1, 0, -1);
      finds("40, ahead of UNLIKE", x, SIZE, () -> call.ask(x, 1));
    });
    says(promise, "UNLIKE.", () -> {
      SandPiano x = twoKeys();
      for (int v : new int[] {2, -1, HIGH, LOW}) {
        fill(x, 1, 0, v, 1);
        finds("a note " + v, x, UNLIKE, () -> call.ask(x, 1));
      }
      SandPiano y = piano("p1");
      y.row(1, 1);
      if (promise != 27) finds("no keys", y, UNLIKE, () -> call.ask(y, 1));
    });
  }
  private static void pieceNothing(int promise, PieceCall call) {
    says(promise, "NOTHING; ", () -> {
      SandPiano x = twoKeys();
      finds("missing", x, NOTHING, () -> call.ask(x, 1));
      x.row(1, 13);
      x.tear(1);
      finds("torn", x, NOTHING, () -> call.ask(x, 1));
    });
  }

  private static void judged() {
    says(23, "A PIECE judged: the first note that can't be PLAYED ", () -> {
      SandPiano x = piano("p1k0010r0000c0000");
      fill(x, 0, 0, 1);
      due("the first", x.judge(0), 0);
      fill(x, 0, 1, 0, 1);
      due("the second", x.judge(0), 1);
      fill(x, 0, 1, 1, 1, 1, 1, 1, 1, 1, 1, 1, 1, 0);
      due("the twelfth", x.judge(0), 11);
    });
    says(23, "(as many as there are: none); ", () -> {
      SandPiano x = piano("p1r0000");
      x.row(0, 0);
      due("of none", x.judge(0), 0);
      x.row(0, 1);
      due("of one", x.judge(0), 1);
      x.row(0, 12);
      due("of twelve", x.judge(0), 12);
      SandPiano y = new SandPiano();
      y.row(0, 0);
      due("of none, no keys", y.judge(0), 0);
    });
    says(23, "how many grains come to the BEACH till then, ", () -> {
      SandPiano x = piano("p1k9050k0010");
      fill(x, 0, 1);
      due("none can be", x.judge(0), 0);
      due("none can be, told", x.asked(), 0);
      SandPiano y = piano("p1k9050");
      y.row(0, 12);
      due("all there are", y.judge(0), 12);
      due("all there are, told", y.asked(), 5);
      y.play(0);
      y.judge(0);
      due("what lay there ahead is not counted", y.asked(), 4);
      SandPiano z = piano("p1b2020k0990");
      fill(z, 0, 0, 1, 0);
      due("till a note", z.judge(0), 1);
      due("till a note, told", z.asked(), 2);
    });
    says(23, "less those carried from there, by asked(). ", () -> {
      SandPiano x = piano("p9c1000k9050");
      fill(x, 0, 0, 0, 0);
      due("an empty beach", x.judge(0), 3);
      due("an empty beach, told", x.asked(), 0);
      x.dig(1);
      due("below 0, till it can't be", x.judge(0), 2);
      due("below 0, told", x.asked(), -2);
      SandPiano y = piano("p9c9000k9050");
      fill(y, 0, 1, 0, 1);
      y.judge(0);
      due("to and from there", y.asked(), 1);
    });
    pieceBad(23, (x, r) -> x.judge(r));
    pieceNothing(23, (x, r) -> x.judge(r));
    pieceSizeAndUnlike(23, (x, r) -> x.judge(r));
  }

  private static void earned() {
    says(24, "What a PIECE earns, ", () -> {
      SandPiano x = piano("p1r0009");
      x.play(0);
      x.row(0, 0);
      due("of none", x.earns(0), 0);
      x.row(0, 12);
      due("of twelve", x.earns(0), 108);
      due("aside", x.count(4), 9);
      due("without pay", noPay(), 0);
    });
    says(24, "till a note can't be PLAYED. ", () -> {
      SandPiano x = piano("p1r0019c0001");
      fill(x, 0, 0, 1, 1, 0);
      due("the third can't be", x.earns(0), 10);
      fill(x, 0, 0, 1);
      due("all can be", x.earns(0), 10);
      SandPiano y = piano("p1k0019r0005");
      fill(y, 0, 0, 1);
      due("the first can't be", y.earns(0), 0);
    });
    pieceBad(24, (x, r) -> x.earns(r));
    pieceNothing(24, (x, r) -> x.earns(r));
    pieceSizeAndUnlike(24, (x, r) -> x.earns(r));
  }
  private static int noPay() {
    SandPiano x = piano("p1r0000");
    x.row(0, 12);
    return x.earns(0);
  }

  /** The digs for a single note of the first key: so many, or NONE. */
  private static void digsFor(String s, int want) {
    SandPiano x = piano(s);
    fill(x, 0, 0);
    due("digs for " + s, x.digs(0, 1), want);
    if (want == NONE) finds("digs for " + s + ", no row", x, NOTHING, () -> x.at(1, 0));
    else row("digs for " + s, x, 1, notes(want, 0));
  }
  private static void dug() {
    says(25, "The fewest DIGS ahead (4 at most) so that a whole PIECE can be PLAYED; ", () -> {
      digsFor("p1k0000", 0);
      digsFor("p1k0010", 1);
      digsFor("p1k0040", 4);
      digsFor("p1k0050", NONE);
      digsFor("p9k0360", 4);
      digsFor("p9k0370", NONE);
      digsFor("p9k9450", 4);
      digsFor("p9k9460", NONE);
      digsFor("p1s0060", 4);
      digsFor("p1s0070", NONE);
      digsFor("p1r0990", 0);
      SandPiano six = piano("p1k0000k0000k0000k0000k0000k0040");
      fill(six, 0, 5);
      due("the last of six", six.digs(0, 1), 4);
      row("the last of six", six, 1, 5, 5, 5, 5);
      six.tide(6);
      due("five on the last of six", six.digs(0, 1), NONE);
      SandPiano x = piano("p1k0990r0000");
      x.row(0, 0);
      due("an empty one", x.digs(0, 1), 0);
      SandPiano y = new SandPiano();
      y.row(0, 0);
      due("an empty one, no keys", y.digs(0, 1), 0);
      row("an empty one, no keys", y, 1);
      SandPiano z = piano("p1k1010k1000k0010");
      fill(z, 0, 0, 1, 2);
      due("the whole of it", z.digs(0, 1), 2);
      row("the whole of it", z, 1, 0, 2);
    });
    says(25, "the KEYS dug, rising ", () -> {
      SandPiano x = piano("p2k1040k1030k1020");
      fill(x, 0, 2, 1, 0);
      due("four", x.digs(0, 1), 4);
      row("four", x, 1, 0, 0, 1, 2);
      sand("aside", x, 0, 4, 3, 2);
      due("aside, deeds", x.count(1), 0);
    });
    says(25, "(of alike ways the first), ", () -> {
      SandPiano x = piano("p1k0010k9010k1010");
      fill(x, 0, 1, 2);
      due("the first of two ways", x.digs(0, 5), 1);
      row("the first of two ways", x, 5, 1);
    });
    says(25, "come to another ROW (anew; perhaps the same). ", () -> {
      SandPiano x = piano("p1k0010");
      fill(x, 0, 0);
      fill(x, 5, 9, 9, 9);
      due("to a longer one", x.digs(0, 5), 1);
      row("to a longer one", x, 5, 0);
      due("to a missing one", x.digs(0, 4), 1);
      row("to a missing one", x, 4, 0);
      row("the piece stays", x, 0, 0);
      fill(x, 3, 0, 0, 0);
      due("to itself", x.digs(3, 3), 1);
      row("to itself", x, 3, 0);
      x.row(3, 0);
      fill(x, 2, 7);
      due("none to dig", x.digs(3, 2), 0);
      row("none to dig", x, 2);
    });
    says(25, "NONE: none so. ", () -> {
      SandPiano x = piano("p1k0050");
      fill(x, 0, 0);
      fill(x, 1, 7, 8);
      long before = x.digest();
      due("none", x.digs(0, 1), NONE);
      due("to itself", x.digs(0, 0), NONE);
      due("to a missing one", x.digs(0, 5), NONE);
      due("rows stay", x.digest(), before);
      due("no finding", x.finding(), 0);
    });
    says(25, "BAD; ", () -> {
      SandPiano x = twoKeys();
      x.row(1, 1);
      badBeyond("a piece", x, 0, 5, r -> x.digs(r, 1));
      badBeyond("another row", x, 0, 5, r -> x.digs(1, r));
      badBeyond("another row of a missing piece", x, 0, 5, r -> x.digs(2, r));
    });
    pieceNothing(25, (x, r) -> x.digs(r, 5));
    pieceSizeAndUnlike(25, (x, r) -> x.digs(r, 5));
  }

  private static void lasting() {
    says(26, "How many TIDES of a HEIGHT can come, one behind the other, so that behind each of them the whole PIECE can be PLAYED ", () -> {
      SandPiano x = piano("p1k9000k9000");
      fill(x, 0, 0);
      due("a height of 1", x.lasts(0, 1), 9);
      due("a height of 2", x.lasts(0, 2), 4);
      due("a height of 9", x.lasts(0, 9), 1);
      fill(x, 0, 1);
      due("a height of 9, the second key", x.lasts(0, 9), 1);
      due("a height of 2, the second key", x.lasts(0, 2), 9);
      fill(x, 0, 0, 1);
      due("the whole piece", x.lasts(0, 2), 4);
    });
    says(26, "(aside each time), ", () -> {
      SandPiano x = piano("p1k9000");
      x.row(0, 12);
      // Were it not aside, the piece would empty the key each time.
      due("aside each time", x.lasts(0, 3), 3);
      sand("the piano stays", x, 0, 0);
      due("the sea stays", x.count(3), 0);
      due("no deeds", x.count(1), 0);
      due("nothing earned", x.count(4), 0);
    });
    says(26, "20 at most; ", () -> {
      // Ten crab's notes take ten grains of the first key: a key of 9 bears 19 then, a shell of 9 bears 21.
      SandPiano x = piano("p1k9000c9000"), y = piano("p1s9000c9000");
      fill(x, 0, 1, 1, 1, 1, 1, 1, 1, 1, 1, 1, 0);
      fill(y, 0, 1, 1, 1, 1, 1, 1, 1, 1, 1, 1, 0);
      due("19", x.lasts(0, 1), 19);
      due("20 of 21", y.lasts(0, 1), 20);
      due("a height of none", x.lasts(0, 0), 20);
      fill(x, 0, 1);
      due("a key that no tide comes to", x.lasts(0, 1), 20);
      x.row(0, 0);
      due("an empty piece", x.lasts(0, 9), 20);
      SandPiano z = new SandPiano();
      z.row(0, 0);
      due("an empty piece, no keys", z.lasts(0, 9), 20);
    });
    says(26, "0, if it can't be behind the first one. ", () -> {
      SandPiano x = piano("p1k0000k0010");
      fill(x, 0, 0);
      due("now it could", x.judge(0), 1);
      due("behind a tide it can't", x.lasts(0, 1), 0);
      fill(x, 0, 1);
      due("it can't now", x.lasts(0, 0), 0);
      fill(x, 0, 0, 1);
      due("a part of it can", x.lasts(0, 0), 0);
    });
    says(26, "BAD; ", () -> {
      SandPiano x = twoKeys();
      x.row(1, 1);
      badBeyond("a piece", x, 0, 5, r -> x.lasts(r, 0));
      badBeyond("a height", x, 0, 9, h -> x.lasts(1, h));
      badBeyond("a height, a missing piece", x, 0, 9, h -> x.lasts(2, h));
      due("the greatest height", x.lasts(1, 9), 1);
    });
    pieceNothing(26, (x, r) -> x.lasts(r, 9));
    pieceSizeAndUnlike(26, (x, r) -> x.lasts(r, 9));
  }

  private static void duets() {
    says(27, "A PIECE on two PIANOS: its notes by turns on this one, on a kept one ", () -> {
      SandPiano x = piano("p1k9050k0000");
      x.keep(2);
      fill(x, 0, 0, 1);
      due("a throw on this one leaves the kept one", x.duet(2, 0), 2);
      fill(x, 0, 0, 1, 1);
      due("a throw on this one", x.duet(2, 0), 2);
      fill(x, 0, 1, 0, 1, 1);
      due("a throw on the kept one", x.duet(2, 0), 3);
    });
    says(27, "(as it was kept, its KEYS these), ", () -> {
      SandPiano x = piano("p1k2020r0000");
      x.keep(0);
      x.tide(1);
      fill(x, 0, 1, 0);
      due("the kept one bears it still", x.duet(0, 0), 2);
      fill(x, 0, 0);
      due("this one does not", x.duet(0, 0), 0);
      x.keep(1);
      x.undo(0);
      fill(x, 0, 0, 0);
      due("kept behind the tide", x.duet(1, 0), 1);
    });
    says(27, "aside: ", () -> {
      SandPiano x = piano("p1k9051k9041");
      x.keep(0);
      x.dig(0);
      fill(x, 0, 0, 0, 0, 0);
      long before = x.digest();
      due("all", x.duet(0, 0), 4);
      due("this one stays", x.digest(), before);
      x.on(0);
      sand("the kept one stays", x, 0, 5, 4);
      due("nothing earned", x.count(4), 0);
    });
    says(27, "the first that can't be PLAYED ", () -> {
      SandPiano x = piano("p1k0010r0000");
      x.keep(0);
      for (int n = 0; n < 12; n++) {
        fill(x, 0, notes(12, 1));
        x.lay(0, n, 0);
        due("note " + n, x.duet(0, 0), n);
      }
    });
    says(27, "(as many as there are: none). ", () -> {
      SandPiano x = piano("p1r0000");
      x.keep(0);
      for (int n : new int[] {0, 1, 2, 12}) {
        x.row(0, n);
        due("of " + n, x.duet(0, 0), n);
      }
    });
    says(27, "BAD; ", () -> {
      SandPiano x = twoKeys();
      x.row(1, 1);
      badBeyond("a kept one", x, 0, 2, k -> x.duet(k, 1));
      badBeyond("a piece", x, 0, 5, r -> x.duet(0, r));
      badBeyond("a kept one, a missing piece", x, 0, 2, k -> x.duet(k, 2));
      badBeyond("a piece, no such kept one", x, 0, 5, r -> x.duet(2, r));
    });
    says(27, "NOTHING: also no such kept one; ", () -> {
      SandPiano x = twoKeys();
      x.row(1, 1);
      finds("a missing piece", x, NOTHING, () -> x.duet(0, 2));
      finds("no such kept one", x, NOTHING, () -> x.duet(1, 1));
      finds("neither", x, NOTHING, () -> x.duet(2, 2));
      x.row(1, 13);
      finds("no such kept one, ahead of SIZE", x, NOTHING, () -> x.duet(1, 1));
      fill(x, 1, 9);
      finds("no such kept one, ahead of UNLIKE", x, NOTHING, () -> x.duet(1, 1));
      x.row(1, 0);
      finds("no such kept one, an empty piece", x, NOTHING, () -> x.duet(1, 1));
      x.piano(0);
      finds("a kept one that went", x, NOTHING, () -> x.duet(0, 1));
    });
    pieceSizeAndUnlike(27, (x, r) -> x.duet(0, r));
  }

  private static void theMost() {
    says(28, "The most KEYS that can be PLAYED one behind the other, each once at most; ", () -> {
      due("none", piano("p1k0010").most(0), 0);
      due("one, once", piano("p1r0000").most(0), 1);
      due("six", piano("p1r0000r0000r0000r0000r0000r0000").most(0), 6);
      due("six of ours", piano("p1k9000b9000s9000c9000d9000r9000").most(0), 6);
      // The crab takes the grain that stops the first key; then it is stopped itself.
      due("one that frees another", piano("p1k0010c0000").most(0), 2);
    });
    says(28, "they come to a ROW (anew; ", () -> {
      SandPiano x = piano("p1k0010c0000");
      fill(x, 5, 7, 7, 7);
      x.most(5);
      row("to a longer one", x, 5, 1, 0);
      x.most(0);
      row("to a missing one", x, 0, 1, 0);
      due("aside", x.count(1), 0);
      sand("aside", x, 0, 1, 0);
      SandPiano y = piano("p1k0010");
      fill(y, 5, 7);
      y.most(5);
      row("none", y, 5);
      y.most(4);
      row("none, to a missing one", y, 4);
    });
    says(28, "the first such row): ", () -> {
      SandPiano x = piano("p1r0000r0000r0000r0000r0000r0000");
      x.most(0);
      row("six", x, 0, 0, 1, 2, 3, 4, 5);
      SandPiano y = piano("p1k1010k1010k1010");
      y.most(0);
      row("the only one", y, 0, 2, 1, 0);
      SandPiano z = piano("p1k0990r0000k0990r0000");
      z.most(0);
      row("of two", z, 0, 1, 3);
    });
    says(28, "how many. ", () -> {
      SandPiano x = piano("p1k0010r0000r0000");
      due("two", x.most(0), 2);
      due("two, again", x.most(0), 2);
    });
    says(28, "BAD; ", () -> {
      SandPiano x = piano("p1k0000");
      badBeyond("a row's number", x, 0, 5, r -> x.most(r));
    });
    says(28, "STATE: no KEYS.", () -> {
      SandPiano x = new SandPiano(), y = piano("p1");
      fill(y, 0, 7);
      refuses("a new object", x, STATE, () -> x.most(0));
      refuses("a piano without keys", y, STATE, () -> y.most(0));
      refuses("BAD ahead", y, BAD, () -> y.most(6));
    });
  }

  private static void theBest() {
    says(29, "The n (0 .. 5) notes, one behind the other, that earn most; ", () -> {
      SandPiano x = piano("p1r0003r0009");
      int[] due = {0, 9, 18, 27, 36, 45};
      for (int n = 0; n <= 5; n++) due("best of " + n, x.best(n, 0), due[n]);
      SandPiano y = piano("p1r0000");
      due("without pay", y.best(5, 0), 0);
      row("without pay", y, 0, 0, 0, 0, 0, 0);
      SandPiano z = piano("p1c0009k9010");
      z.dig(1);
      due("it stops itself", z.best(2, 0), 9);
      SandPiano w = piano("p1k0015c0004");
      due("one that frees another", w.best(3, 0), 14);
      row("one that frees another", w, 0, 1, 0, 0);
      x.play(1);
      due("what was earned ahead is not counted", x.best(1, 0), 9);
      due("the last of six keys", piano("p1r0001r0002r0003r0004r0005r0009").best(5, 0), 45);
      // A grain from the beach stops the first crab, and the second when it carries it on: the dearest note comes late.
      SandPiano u = piano("p9c0099c0004r0003");
      u.dig(0);
      due("the dearest note late", u.best(5, 0), 30);
      row("the dearest note late", u, 0, 1, 1, 0, 1, 0);
    });
    says(29, "they come to a ROW (anew; ", () -> {
      SandPiano x = piano("p1r0003r0009");
      fill(x, 5, 7, 7, 7);
      x.best(2, 5);
      row("to a longer one", x, 5, 1, 1);
      x.best(5, 4);
      row("to a missing one", x, 4, 1, 1, 1, 1, 1);
      x.best(0, 4);
      row("none", x, 4);
      x.best(0, 3);
      row("none, to a missing one", x, 3);
      due("aside, deeds", x.count(1), 0);
      due("aside, earned", x.count(4), 0);
    });
    says(29, "the first such row): ", () -> {
      SandPiano x = piano("p1k0019r0005k0990r0005");
      x.best(5, 0);
      row("of alike ones", x, 0, 1, 1, 1, 1, 1);
      SandPiano y = piano("p1r0001r0002r0002");
      y.best(1, 0);
      row("not the first key", y, 0, 1);
      // 0 then 1, and 1 then 0, earn alike; twice the same can't be.
      SandPiano z = piano("p1c0005c0005");
      z.tide(2); z.storm(0); z.dig(0);
      sand("two crabs, grains on the beach", z, 3, 0, 0);
      due("two crabs", z.best(2, 0), 10);
      row("two crabs", z, 0, 0, 1);
    });
    says(29, "how much. ", () -> {
      due("none", piano("p1r0009").best(0, 0), 0);
      due("five of nine", piano("p1r0009").best(5, 0), 45);
      due("unlike ones", bestOfUnlike(), 13);
    });
    says(29, "NONE: not so many can be PLAYED. ", () -> {
      SandPiano x = piano("p1k0019");
      fill(x, 0, 7);
      due("none of none", x.best(0, 1), 0);
      long before = x.digest();
      for (int n = 1; n <= 5; n++) due("best of " + n, x.best(n, 0), NONE);
      due("to a missing one", x.best(1, 5), NONE);
      due("rows stay", x.digest(), before);
      due("no finding", x.finding(), 0);
      SandPiano y = piano("p1c0009");
      y.tide(1); y.storm(0);
      due("one", y.best(1, 0), 9);
      due("two", y.best(2, 0), NONE);
      row("the row stays", y, 0, 0);
    });
    says(29, "BAD; ", () -> {
      SandPiano x = piano("p1k0000");
      badBeyond("how many", x, 0, 5, n -> x.best(n, 0));
      badBeyond("a row's number", x, 0, 5, r -> x.best(0, r));
    });
    says(29, "STATE: no KEYS.", () -> {
      SandPiano x = new SandPiano(), y = piano("p1");
      fill(y, 0, 7);
      refuses("a new object", x, STATE, () -> x.best(0, 0));
      refuses("a piano without keys", y, STATE, () -> y.best(5, 0));
      refuses("BAD ahead", y, BAD, () -> y.best(6, 0));
      refuses("BAD ahead, a row", y, BAD, () -> y.best(0, 6));
    });
  }
  /** A crab that pays 9 once, and a ring that pays 2. */
  private static int bestOfUnlike() {
    SandPiano x = piano("p1r0012c0009");
    return x.best(3, 0);
  }

  private static void counted() {
    says(30, "How many unlike rows of n (0 .. 4) notes there are that can be PLAYED one behind the other; ", () -> {
      SandPiano x = piano("p1r0000r0000r0000r0000r0000r0000");
      int[] due = {1, 6, 36, 216, 1296};
      for (int n = 0; n <= 4; n++) due("six rings, " + n, x.rows(n), due[n]);
      SandPiano y = piano("p1k0010");
      due("of none", y.rows(0), 1);
      for (int n = 1; n <= 4; n++) due("none can be, " + n, y.rows(n), 0);
      // The crab stops itself by its note, behind which the key can be played.
      SandPiano z = piano("p1k0010c0000");
      due("one", z.rows(1), 1);
      due("one behind the other", z.rows(2), 1);
      due("four of two", z.rows(4), 1);
    });
    says(30, "how many unlike SANDS (on all KEYS) are left by them by asked(). ", () -> {
      SandPiano x = piano("p1k9050k9050k9050k9050k9050k9050");
      int[] due = {1, 6, 21, 56, 126};
      for (int n = 0; n <= 4; n++) {
        x.rows(n);
        due("six keys, " + n, x.asked(), due[n]);
      }
      SandPiano y = piano("p1k0010");
      y.rows(0);
      due("of none", y.asked(), 1);
      y.rows(4);
      due("none can be", y.asked(), 0);
      SandPiano z = piano("p1r0000r0000");
      z.rows(4);
      due("all alike", z.asked(), 1);
      SandPiano v = piano("p1b9010r0000"), u = piano("p1r0000k9010");
      v.rows(1);
      due("unlike on the first key alone", v.asked(), 2);
      u.rows(1);
      due("unlike on the last key alone", u.asked(), 2);
      mostSand();
      manySands("p1b9061b9051c9041k9061k9041b9021", 1277, 126);
      manySands("p1b9051d9051b9011d9071d9011d9051", 1296, 213);
      SandPiano w = piano("p1r0990c9000c9000");
      for (int i = 0; i < 57; i++) w.tide(i == 0 ? 0 : 1);
      due("much sand", w.rows(2), 9);
      due("much sand, told", w.asked(), 4);
      sand("aside", w, 0, 155, 0, 0);
      due("aside, deeds", w.count(1), 57);
    });
    says(30, "BAD; ", () -> {
      SandPiano x = piano("p1k0000");
      badBeyond("how many", x, 0, 4, n -> x.rows(n));
    });
    says(30, "STATE: no KEYS.", () -> {
      SandPiano x = new SandPiano(), y = piano("p1");
      refuses("a new object", x, STATE, () -> x.rows(0));
      refuses("a piano without keys", y, STATE, () -> y.rows(4));
      refuses("BAD ahead", y, BAD, () -> y.rows(5));
    });
  }

  /** So many by the model, too. */
  private static void manySands(String s, int rows, int sands) {
    SandPiano x = piano(s);
    due("rows of " + s, x.rows(4), rows);
    due("rows of " + s + ", told", x.asked(), sands);
    Model m = new Model();
    m.text(0, s.length());
    for (int i = 0; i < s.length(); i++) m.put(0, i, s.charAt(i));
    m.piano(0);
    due("the model's rows of " + s, m.rows(4), rows);
    due("the model's rows of " + s + ", told", m.asked(), sands);
  }
  /** 513 grains on the second key; the first one's only grain goes or stays. */
  private static void mostSand() {
    SandPiano x = piano("p1b9990r0000");
    for (int i = 0; i < 46; i++) x.tide(9);
    x.storm(1);
    x.tide(1);
    sand("beside 513", x, 368, 1, 513);
    due("beside 513", x.rows(1), 2);
    due("beside 513, told", x.asked(), 2);
  }

  private static void backs() {
    says(31, "SAND as in a ROW (as many as KEYS, 0 .. 999 each) is as the PIANO's was: ", () -> {
      SandPiano x = piano("p1r0990c9010");
      fill(x, 0, 999, 0);
      due("999 and 0", x.back(0, 4, 1), 0);
      fill(x, 0, 100, 0);
      due("a grain carried", x.back(0, 1, 1), 1);
      row("a grain carried", x, 1, 1);
      row("the sand's row stays", x, 0, 100, 0);
      sand("the piano stays", x, 0, 99, 1);
      due("no deeds", x.count(1), 0);
    });
    says(31, "in how many rows of n (0 .. 4) notes it comes from there to what lies on the KEYS now ", () -> {
      SandPiano x = piano("p1r0010r0020r0030r0040r0050r0060");
      fill(x, 0, 1, 2, 3, 4, 5, 6);
      int[] due = {1, 6, 36, 216, 1296};
      for (int n = 0; n <= 4; n++) due("six rings, " + n, x.back(0, n, 1), due[n]);
      fill(x, 0, 1, 2, 3, 4, 5, 7);
      for (int n = 0; n <= 4; n++) due("a grain too many, " + n, x.back(0, n, 1), 0);
      SandPiano y = piano("p1k2020");
      fill(y, 0, 3);
      due("it could not be played there", y.back(0, 1, 1), 0);
      SandPiano z = piano("p1k2010");
      fill(z, 0, 2);
      due("it could be played there", z.back(0, 1, 1), 1);
      fill(z, 0, 1);
      due("it is there now", z.back(0, 0, 1), 1);
      due("and not behind a note", z.back(0, 1, 1), 0);
    });
    says(31, "(the BEACH was empty then); ", () -> {
      SandPiano x = piano("p9c9000k9020");
      x.dig(1);
      due("a beach now", x.count(2), 2);
      x.play(0);
      sand("a grain carried", x, 1, 1, 0);
      fill(x, 0, 0, 0);
      due("not from the beach of now", x.back(0, 1, 1), 0);
      due("nor by four", x.back(0, 4, 1), 0);
      x.row(2, 0);
      x.judge(2);
      due("nor behind a judged piece", x.back(0, 1, 1), 0);
      fill(x, 0, 0, 1);
      due("from a beach that a note filled", x.back(0, 2, 1), 1);
      row("from a beach that a note filled", x, 1, 1, 0);
    });
    says(31, "the first row comes to another ROW (anew; ", () -> {
      SandPiano x = piano("p1r0000r0000");
      fill(x, 0, 0, 0);
      fill(x, 5, 7, 7, 7, 7, 7);
      x.back(0, 4, 5);
      row("to a longer one", x, 5, 0, 0, 0, 0);
      x.back(0, 3, 4);
      row("to a missing one", x, 4, 0, 0, 0);
      x.back(0, 0, 4);
      row("of none", x, 4);
      x.back(0, 1, 0);
      row("to itself", x, 0, 0);
      SandPiano y = piano("p1k9040k9050");
      fill(y, 0, 6, 3);
      due("two throws", y.back(0, 2, 1), 1);
      row("two throws", y, 1, 0, 0);
      fill(y, 0, 5, 5);
      due("unlike notes", y.back(0, 2, 1), 2);
      row("unlike notes", y, 1, 0, 1);
    });
    says(31, "if there is none, that ROW stays as it is). ", () -> {
      SandPiano x = piano("p1r0010");
      fill(x, 0, 0);
      fill(x, 1, 7, 8);
      long before = x.digest();
      for (int n = 0; n <= 4; n++) due("none by " + n, x.back(0, n, 1), 0);
      due("to itself", x.back(0, 1, 0), 0);
      due("to a missing one", x.back(0, 1, 5), 0);
      due("rows stay", x.digest(), before);
      due("no finding", x.finding(), 0);
    });
    says(31, "BAD; ", () -> {
      SandPiano x = piano("p1r0010");
      fill(x, 0, 1);
      badBeyond("a row", x, 0, 5, r -> x.back(r, 0, 0));
      badBeyond("how many", x, 0, 4, n -> x.back(0, n, 0));
      badBeyond("another row", x, 0, 5, r -> x.back(0, 0, r));
    });
    says(31, "STATE: no KEYS; ", () -> {
      SandPiano x = new SandPiano(), y = piano("p1");
      y.row(0, 0);
      refuses("a new object", x, STATE, () -> x.back(0, 0, 0));
      refuses("a piano without keys, as many", y, STATE, () -> y.back(0, 0, 0));
    });
    says(31, "NOTHING; ", () -> {
      SandPiano x = piano("p1r0010");
      finds("missing", x, NOTHING, () -> x.back(3, 0, 0));
      x.row(0, 1);
      finds("missing, to one that is there", x, NOTHING, () -> x.back(3, 1, 0));
    });
    says(31, "SIZE: not as many as KEYS; ", () -> {
      SandPiano x = piano("p1r0000r0000");
      for (int n : new int[] {0, 1, 3, 40}) {
        x.row(0, n);
        finds("of " + n, x, SIZE, () -> x.back(0, 0, 1));
      }
      x.row(0, 2);
      due("as many", x.back(0, 0, 1), 1);
    });
    says(31, "UNLIKE. ", () -> {
      SandPiano x = piano("p1r0000r0000");
      for (int v : new int[] {-1, 1000, LOW, HIGH}) {
        fill(x, 0, v, 0);
        finds("the first " + v, x, UNLIKE, () -> x.back(0, 0, 1));
        fill(x, 0, 0, v);
        finds("the last " + v, x, UNLIKE, () -> x.back(0, 4, 1));
      }
    });
    says(31, "(In this order.)", () -> {
      SandPiano x = new SandPiano();
      refuses("BAD ahead of STATE", x, BAD, () -> x.back(0, 5, 0));
      refuses("STATE ahead of NOTHING", x, STATE, () -> x.back(0, 4, 0));
      fill(x, 0, -1);
      refuses("STATE ahead of SIZE, UNLIKE", x, STATE, () -> x.back(0, 4, 0));
      SandPiano y = piano("p1r0000r0000");
      refuses("BAD ahead of NOTHING", y, BAD, () -> y.back(0, 5, 0));
      fill(y, 0, -1);
      finds("SIZE ahead of UNLIKE, fewer", y, SIZE, () -> y.back(0, 4, 0));
      fill(y, 0, 1000, 1000, 1000);
      finds("SIZE ahead of UNLIKE, more", y, SIZE, () -> y.back(0, 4, 0));
    });
  }

  private static int ringBy(SandPiano x, int... pairs) {
    fill(x, 0, pairs);
    return x.ring(0);
  }
  private static void songRefusals(int promise, String size, String unlike, PieceCall call) {
    says(promise, "BAD; ", () -> {
      SandPiano x = twoKeys();
      badBeyond("a row's number", x, 0, 5, r -> call.ask(x, r));
    });
    says(promise, "NOTHING; ", () -> {
      SandPiano x = twoKeys();
      finds("missing", x, NOTHING, () -> call.ask(x, 1));
    });
    says(promise, size, () -> {
      SandPiano x = twoKeys();
      for (int n : new int[] {1, 3, 39}) {
        x.row(1, n);
        x.lay(1, 0, 9);
        finds("of " + n + ", ahead of UNLIKE", x, SIZE, () -> call.ask(x, 1));
      }
      x.row(1, 40);
      due("of 40", call.ask(x, 1), promise == 32 ? 0 : NONE);
      x.row(1, 2);
      due("of 2", call.ask(x, 1), promise == 32 ? 0 : NONE);
    });
    says(promise, unlike, () -> {
      SandPiano x = twoKeys();
      for (int v : new int[] {-1, 2, LOW, HIGH}) {
        fill(x, 1, v, 1);
        finds("a key " + v, x, UNLIKE, () -> call.ask(x, 1));
        fill(x, 1, 0, 1, 1, 1, v, 0);
        finds("the last key " + v, x, UNLIKE, () -> call.ask(x, 1));
        fill(x, 1, 0, v);
        finds("sung " + v, x, UNLIKE, () -> call.ask(x, 1));
        fill(x, 1, 0, 1, 1, v);
        finds("sung " + v + " at last", x, UNLIKE, () -> call.ask(x, 1));
      }
      SandPiano y = new SandPiano();
      y.row(1, 2);
      finds("no keys", y, UNLIKE, () -> call.ask(y, 1));
    });
  }
  private static void rings() {
    says(32, "A lost ring lies under one KEY; ", () -> {
      SandPiano x = piano("p1k0000k0990k0000k0000k0000k0000");
      due("any", ringBy(x), 63);
      due("one", ringBy(piano("p1k0000")), 1);
      due("no keys", ringBy(new SandPiano()), 0);
      due("not under two", ringBy(x, 0, 1, 5, 1), 0);
    });
    says(32, "a KEY sings, if it lies under it or under one next to it. ", () -> {
      SandPiano x = piano("p1k0000k0990k0000k0000k0000k0000");
      int[] near = {3, 7, 14, 28, 56, 48};
      for (int i = 0; i < 6; i++) {
        due("key " + i + " sang", ringBy(x, i, 1), near[i]);
        due("key " + i + " did not", ringBy(x, i, 0), 63 - near[i]);
      }
      due("one key sang", ringBy(piano("p1k0000"), 0, 1), 1);
      due("one key did not", ringBy(piano("p1k0000"), 0, 0), 0);
      due("the last of two sang", ringBy(piano("p1k0000k0000"), 1, 1), 3);
    });
    says(32, "From a ROW of pairs (a KEY, and 1: it sang, 0: not) under which KEYS it can lie (bits). ", () -> {
      SandPiano x = piano("p1k0000k0990k0000k0000k0000k0000");
      due("two", ringBy(x, 2, 1, 3, 0), 2);
      due("twice the same", ringBy(x, 4, 1, 4, 1), 56);
      due("sang and did not", ringBy(x, 4, 1, 4, 0), 0);
      due("none sang", ringBy(x, 1, 0, 4, 0), 0);
      int[] twenty = new int[40];
      for (int i = 0; i < 40; i += 2) { twenty[i] = 5; twenty[i + 1] = 1; }
      twenty[38] = 3;
      due("twenty pairs", ringBy(x, twenty), 16);
      row("the row stays", x, 0, twenty);
    });
    songRefusals(32, "SIZE: not even; ", "UNLIKE: no KEY, neither 1 nor 0.", (x, r) -> x.ring(r));
  }

  private static void strike(String what, SandPiano x, int key, int left, int... pairs) {
    fill(x, 0, pairs);
    due(what, x.strike(0), key);
    due(what + ", told", x.asked(), left);
  }
  private static void strikes() {
    says(33, "Which KEY to strike, so that fewest KEYS are left at worst under which it can lie, sung or not ", () -> {
      String key = "k0000";
      strike("one key", piano("p1" + key), 0, 1);
      strike("two keys", piano("p1" + key.repeat(2)), 0, 2);
      strike("three keys", piano("p1" + key.repeat(3)), 0, 2);
      strike("four keys", piano("p1" + key.repeat(4)), 0, 2);
      strike("five keys", piano("p1" + key.repeat(5)), 0, 3);
      strike("six keys", piano("p1" + key.repeat(6)), 1, 3);
    });
    says(33, "(the first; ", () -> {
      SandPiano x = piano("p1k0000k0000k0000k0000k0000k0000");
      // Under 4 or 5: key 3 alone tells them apart.
      strike("the only one", x, 3, 1, 5, 1);
      // Under 5 alone: any key leaves it.
      strike("any", x, 0, 1, 5, 1, 3, 0);
      // Under 2, 3, 4, 5: keys 2, 3 and 5 leave two at worst.
      strike("not the least by number", x, 2, 2, 0, 0);
    });
    says(33, "by a ROW as with ring()); ", () -> {
      SandPiano x = piano("p1k0000k0000k0000k0000k0000k0000");
      strike("none known", x, 1, 3);
      strike("one known", x, 2, 1, 0, 1);
      row("the row stays", x, 0, 0, 1);
    });
    says(33, "how many by asked(). ", () -> {
      SandPiano x = piano("p1k0000k0000k0000k0000k0000k0000");
      strike("three", x, 1, 3);
      strike("two", x, 0, 2, 2, 0);
      strike("one", x, 0, 1, 2, 1, 3, 0);
    });
    says(33, "NONE: it can lie nowhere. ", () -> {
      SandPiano x = piano("p1k0000k0000k0000k0000k0000k0000");
      fill(x, 0, 0, 1, 5, 1);
      x.at(0, 2);
      due("nowhere", x.strike(0), NONE);
      due("not told", x.asked(), 5);
      due("no finding", x.finding(), 0);
      SandPiano y = new SandPiano();
      y.row(0, 0);
      due("no keys", y.strike(0), NONE);
    });
    songRefusals(33, "SIZE; ", "UNLIKE.", (x, r) -> x.strike(r));
  }
}
