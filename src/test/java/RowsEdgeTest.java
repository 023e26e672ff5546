/** The sentences of promises 1 to 14 (rows, texts, pianos), one by one. */
public final class RowsEdgeTest extends Edges {
  public static void main(String[] args) {
    newObject();
    rows();
    places();
    copies();
    means();
    texts();
    pianos();
    keys();
    marks();
    spades();
    quoted(1, 14);
    finish("promises 1 to 14 hold, sentence by sentence");
  }

  private static void newObject() {
    says(1, "No ROWS, ", () -> {
      SandPiano x = new SandPiano();
      due("rows", x.count(6), 0);
      for (int r = 0; r <= 5; r++) { int n = r; finds("row " + r, x, NOTHING, () -> x.tear(n)); }
    });
    says(1, "TEXTS, ", () -> {
      SandPiano x = new SandPiano();
      due("texts", x.count(7), 0);
      for (int t = 0; t <= 3; t++) { int n = t; finds("text " + t, x, NOTHING, () -> x.fault(n)); }
    });
    says(1, "KEYS; ", () -> {
      SandPiano x = new SandPiano();
      due("keys", x.count(0), 0);
      due("basses", x.count(5), 0);
      due("can()", x.can(), 0);
      refuses("key(0, 0)", x, BAD, () -> x.key(0, 0));
    });
    says(1, "SPADE 1, ", () -> {
      // The spade is told by digest alone while there are no keys.
      long h = 17;
      for (int i = 0; i < 9; i++) h = 31 * h;
      h = 31 * h + 1;
      for (int i = 0; i < 3 + 6 + 4; i++) h = 31 * h - 1;
      due("digest()", new SandPiano().digest(), h);
    });
    says(1, "nothing on the BEACH.", () -> {
      SandPiano x = new SandPiano();
      due("the beach", x.count(2), 0);
      due("deeds", x.count(1), 0);
      due("the sea", x.count(3), 0);
      due("earned", x.count(4), 0);
      due("kept pianos", x.count(8), 0);
    });
  }

  private static void rows() {
    says(2, "A ROW is there with n ints 0: n. ", () -> {
      SandPiano x = new SandPiano();
      due("none", x.row(0, 0), 0);
      row("none", x, 0);
      due("one", x.row(1, 1), 1);
      row("one", x, 1, 0);
      due("forty", x.row(5, 40), 40);
      row("forty", x, 5, new int[40]);
      for (int i = 0; i < 40; i++) x.lay(5, i, 7);
      due("fewer anew", x.row(5, 2), 2);
      row("fewer anew", x, 5, 0, 0);
      due("more anew", x.row(5, 40), 40);
      row("more anew", x, 5, new int[40]);
      due("rows", x.count(6), 3);
    });
    says(2, "BAD: also n above 40; ", () -> {
      SandPiano x = new SandPiano();
      fill(x, 0, 7);
      refuses("41", x, BAD, () -> x.row(0, 41));
      refuses("the greatest number", x, BAD, () -> x.row(0, HIGH));
      refuses("41 of a missing one", x, BAD, () -> x.row(1, 41));
      badBeyond("a row's number", x, 0, 5, r -> x.row(r, 1));
      badBeyond("a row's number, -1 places", x, 0, 5, r -> x.row(r, -1));
      row("the row stays", x, 0, 7);
    });
    says(2, "SIZE: below 0.", () -> {
      SandPiano x = new SandPiano();
      fill(x, 0, 7);
      finds("-1", x, SIZE, () -> x.row(0, -1));
      finds("the least number", x, SIZE, () -> x.row(0, LOW));
      finds("-1 of a missing one", x, SIZE, () -> x.row(1, -1));
      row("the row stays", x, 0, 7);
    });
  }

  private static SandPiano withRow(int n) {
    SandPiano x = new SandPiano();
    x.row(2, n);
    return x;
  }

  private static void places() {
    says(3, "Place i of a ROW is v: what it was, told by asked(): 1. ", () -> {
      SandPiano x = withRow(40);
      due("the first", x.lay(2, 0, LOW), 1);
      due("what it was", x.asked(), 0);
      due("the first again", x.lay(2, 0, -1), 1);
      due("what it was then", x.asked(), LOW);
      due("the last", x.lay(2, 39, HIGH), 1);
      due("the last again", x.lay(2, 39, 0), 1);
      due("what the last was", x.asked(), HIGH);
      x.at(2, 0);
      due("the first stays", x.asked(), -1);
      x.at(2, 1);
      due("the next one stays", x.asked(), 0);
    });
    says(3, "BAD; ", () -> {
      SandPiano x = withRow(1);
      badBeyond("a row's number", x, 0, 5, r -> x.lay(r, 0, 1));
    });
    says(3, "NOTHING; ", () -> {
      SandPiano x = withRow(1);
      finds("missing", x, NOTHING, () -> x.lay(3, 0, 1));
      finds("missing, no such place", x, NOTHING, () -> x.lay(3, -1, 1));
      x.tear(2);
      finds("torn", x, NOTHING, () -> x.lay(2, 0, 1));
    });
    says(3, "BEYOND.", () -> {
      SandPiano x = withRow(3);
      findsBeyond("a place", x, BEYOND, 0, 2, i -> x.lay(2, i, 1));
      SandPiano y = withRow(0);
      finds("of none", y, BEYOND, () -> y.lay(2, 0, 1));
      SandPiano z = withRow(40);
      finds("of forty", z, BEYOND, () -> z.lay(2, 40, 1));
    });
    says(4, "Place i of a ROW, told by asked(): 1. ", () -> {
      SandPiano x = withRow(40);
      x.lay(2, 0, LOW);
      x.lay(2, 39, HIGH);
      due("the last", x.at(2, 39), 1);
      due("the last told", x.asked(), HIGH);
      due("the first", x.at(2, 0), 1);
      due("the first told", x.asked(), LOW);
    });
    says(4, "BAD; ", () -> {
      SandPiano x = withRow(1);
      badBeyond("a row's number", x, 0, 5, r -> x.at(r, 0));
    });
    says(4, "NOTHING; ", () -> {
      SandPiano x = withRow(1);
      finds("missing", x, NOTHING, () -> x.at(3, 0));
      finds("missing, no such place", x, NOTHING, () -> x.at(3, 40));
    });
    says(4, "BEYOND.", () -> {
      SandPiano x = withRow(3);
      findsBeyond("a place", x, BEYOND, 0, 2, i -> x.at(2, i));
      SandPiano y = withRow(0);
      finds("of none", y, BEYOND, () -> y.at(2, 0));
      SandPiano z = withRow(40);
      finds("of forty", z, BEYOND, () -> z.at(2, 40));
    });
    says(5, "A ROW is missing: 1. ", () -> {
      SandPiano x = withRow(3);
      x.row(0, 0);
      x.row(5, 40);
      for (int r : new int[] {0, 2, 5}) due("row " + r, x.tear(r), 1);
      due("rows", x.count(6), 0);
      finds("it is missing", x, NOTHING, () -> x.at(2, 0));
    });
    says(5, "BAD; ", () -> {
      SandPiano x = withRow(1);
      badBeyond("a row's number", x, 0, 5, r -> x.tear(r));
    });
    says(5, "NOTHING.", () -> {
      SandPiano x = withRow(1);
      finds("never made", x, NOTHING, () -> x.tear(0));
      x.tear(2);
      finds("torn", x, NOTHING, () -> x.tear(2));
    });
  }

  private static void copies() {
    says(6, "n places of a ROW, from one on, come to those of another one (perhaps itself) from one on, as if taken ahead: 1. ", () -> {
      SandPiano x = new SandPiano();
      fill(x, 0, 1, 2, 3, 4, 5);
      fill(x, 5, 9, 9, 9);
      due("to another", x.copy(0, 3, 5, 1, 2), 1);
      row("to another", x, 5, 9, 4, 5);
      row("from there", x, 0, 1, 2, 3, 4, 5);
      due("to itself, to the right", x.copy(0, 0, 0, 1, 4), 1);
      row("to itself, to the right", x, 0, 1, 1, 2, 3, 4);
      due("to itself, to the left", x.copy(0, 2, 0, 0, 3), 1);
      row("to itself, to the left", x, 0, 2, 3, 4, 3, 4);
      due("to itself, in place", x.copy(0, 0, 0, 0, 5), 1);
      row("to itself, in place", x, 0, 2, 3, 4, 3, 4);
      x.row(1, 40);
      x.row(2, 40);
      x.lay(1, 0, LOW);
      x.lay(1, 39, HIGH);
      due("all forty", x.copy(1, 0, 2, 0, 40), 1);
      x.at(2, 39);
      due("all forty, the last", x.asked(), HIGH);
      due("none", x.copy(0, 0, 5, 0, 0), 1);
      due("none, at both ends", x.copy(0, 5, 5, 3, 0), 1);
      x.row(3, 0);
      due("none, of empty ones", x.copy(3, 0, 3, 0, 0), 1);
      row("none", x, 5, 9, 4, 5);
    });
    says(6, "BAD; ", () -> {
      SandPiano x = withRow(2);
      badBeyond("from a row", x, 0, 5, r -> x.copy(r, 0, 2, 0, 1));
      badBeyond("to a row", x, 0, 5, r -> x.copy(2, 0, r, 0, 1));
      badBeyond("to a row, -1 places", x, 0, 5, r -> x.copy(2, 0, r, 0, -1));
      badBeyond("to a row, from a missing one", x, 0, 5, r -> x.copy(0, 0, r, 0, 1));
    });
    says(6, "SIZE: n below 0; ", () -> {
      SandPiano x = withRow(2);
      finds("-1", x, SIZE, () -> x.copy(2, 1, 2, 1, -1));
      finds("the least number", x, SIZE, () -> x.copy(2, 0, 2, 0, LOW));
      finds("-1, ahead of NOTHING", x, SIZE, () -> x.copy(0, 0, 1, 0, -1));
      finds("-1, ahead of BEYOND", x, SIZE, () -> x.copy(2, 9, 2, 9, -1));
    });
    says(6, "NOTHING: either; ", () -> {
      SandPiano x = withRow(2);
      finds("from a missing one", x, NOTHING, () -> x.copy(0, 0, 2, 0, 1));
      finds("to a missing one", x, NOTHING, () -> x.copy(2, 0, 0, 0, 1));
      finds("both", x, NOTHING, () -> x.copy(0, 0, 1, 0, 1));
      finds("none of a missing one", x, NOTHING, () -> x.copy(0, 0, 2, 0, 0));
      finds("to a missing one, ahead of BEYOND", x, NOTHING, () -> x.copy(2, 5, 0, 0, 1));
    });
    says(6, "BEYOND: not so many there.", () -> {
      SandPiano x = new SandPiano();
      fill(x, 0, 1, 2, 3);
      fill(x, 1, 4, 5, 6, 7);
      finds("one more than there are, from", x, BEYOND, () -> x.copy(0, 0, 1, 0, 4));
      finds("one more than there are, to", x, BEYOND, () -> x.copy(1, 0, 0, 0, 4));
      finds("from the last one on", x, BEYOND, () -> x.copy(0, 2, 1, 0, 2));
      finds("to the last one on", x, BEYOND, () -> x.copy(1, 0, 0, 2, 2));
      finds("from the end on", x, BEYOND, () -> x.copy(0, 3, 1, 0, 1));
      finds("none, from behind the end", x, BEYOND, () -> x.copy(0, 4, 1, 0, 0));
      finds("none, to behind the end", x, BEYOND, () -> x.copy(1, 0, 0, 4, 0));
      finds("from -1", x, BEYOND, () -> x.copy(0, -1, 1, 0, 1));
      finds("to -1", x, BEYOND, () -> x.copy(0, 0, 1, -1, 1));
      finds("none from -1", x, BEYOND, () -> x.copy(0, -1, 1, 0, 0));
      finds("none to -1", x, BEYOND, () -> x.copy(0, 0, 1, -1, 0));
      finds("41", x, BEYOND, () -> x.copy(0, 0, 1, 0, 41));
      finds("a sum that wraps around, from", x, BEYOND, () -> x.copy(0, 1, 1, 0, HIGH));
      finds("a sum that wraps around, to", x, BEYOND, () -> x.copy(0, 0, 1, HIGH, 1));
      finds("two great numbers", x, BEYOND, () -> x.copy(0, HIGH, 1, HIGH, HIGH));
      finds("the least place", x, BEYOND, () -> x.copy(0, LOW, 1, 0, 1));
      finds("the least place, as many", x, BEYOND, () -> x.copy(0, LOW, 1, LOW, HIGH));
      row("nothing came, from", x, 0, 1, 2, 3);
      row("nothing came, to", x, 1, 4, 5, 6, 7);
    });
  }

  private static void mean(String what, int want, int... values) {
    SandPiano x = new SandPiano();
    fill(x, 0, values);
    due(what, x.mean(0), 1);
    due(what + ", told", x.asked(), want);
    row(what + ", the row stays", x, 0, values);
  }
  private static void means() {
    says(7, "The mean of a ROW's ints, cut, told by asked(): 1. ", () -> {
      mean("one", -7, -7);
      mean("whole", 2, 1, 2, 3);
      mean("cut", 1, 1, 1, 3);
      mean("cut, below 0", -1, -1, -1, -3);
      mean("a half below 0", 0, 0, -1);
      mean("a half", 0, 0, 1);
      mean("the greatest ones", HIGH, HIGH, HIGH, HIGH);
      mean("the least ones", LOW, LOW, LOW, LOW);
      mean("the least and the greatest", 0, LOW, HIGH);
      SandPiano x = withRow(40);
      for (int i = 0; i < 40; i++) x.lay(2, i, HIGH);
      x.mean(2);
      due("forty of the greatest", x.asked(), HIGH);
      // What lay in a longer row ahead is not in the mean.
      x.row(2, 1);
      x.mean(2);
      due("anew", x.asked(), 0);
    });
    says(7, "BAD; ", () -> {
      SandPiano x = withRow(1);
      badBeyond("a row's number", x, 0, 5, r -> x.mean(r));
    });
    says(7, "NOTHING; ", () -> {
      SandPiano x = withRow(1);
      finds("missing", x, NOTHING, () -> x.mean(0));
      x.tear(2);
      finds("torn", x, NOTHING, () -> x.mean(2));
    });
    says(7, "NOUGHT.", () -> {
      SandPiano x = withRow(0);
      finds("of none", x, NOUGHT, () -> x.mean(2));
    });
  }

  private static void texts() {
    says(8, "A TEXT is there with n blanks: n. ", () -> {
      SandPiano x = new SandPiano();
      due("none", x.text(0, 0), 0);
      finds("no byte", x, BEYOND, () -> x.put(0, 0, 65));
      due("sixty", x.text(3, 60), 60);
      for (int i = 0; i < 60; i++) due("byte " + i, x.put(3, i, 65), 1032);
      due("fewer anew", x.text(3, 2), 2);
      due("more anew", x.text(3, 60), 60);
      for (int i = 0; i < 60; i++) due("byte " + i + " anew", x.put(3, i, 65), 1032);
      due("texts", x.count(7), 2);
    });
    says(8, "BAD: also n above 60; ", () -> {
      SandPiano x = new SandPiano();
      write(x, 0, "p1");
      refuses("61", x, BAD, () -> x.text(0, 61));
      refuses("the greatest number", x, BAD, () -> x.text(0, HIGH));
      badBeyond("a text's number", x, 0, 3, t -> x.text(t, 1));
      badBeyond("a text's number, -1 bytes", x, 0, 3, t -> x.text(t, -1));
      due("the text stays", x.fault(0), NONE);
    });
    says(8, "SIZE: below 0.", () -> {
      SandPiano x = new SandPiano();
      write(x, 0, "p1");
      finds("-1", x, SIZE, () -> x.text(0, -1));
      finds("the least number", x, SIZE, () -> x.text(0, LOW));
      finds("-1 of a missing one", x, SIZE, () -> x.text(1, -1));
      due("the text stays", x.fault(0), NONE);
    });
    says(9, "Byte i of a TEXT is v, cut to a byte: what it was, and 1000 more. ", () -> {
      SandPiano x = new SandPiano();
      x.text(3, 60);
      int[] values = {0, 127, 128, 255, 256, -1, -128, -129, HIGH, LOW, 65536 + 107};
      int[] bytes = {0, 127, -128, -1, 0, -1, -128, 127, -1, 0, 107};
      int was = 32;
      for (int i = 0; i < values.length; i++) {
        due("put(3, 59, " + values[i] + ")", x.put(3, 59, values[i]), was + 1000);
        was = bytes[i];
      }
      due("what the last was", x.put(3, 59, 0), was + 1000);
      due("the first", x.put(3, 0, 5), 1032);
      due("the first again", x.put(3, 0, 5), 1005);
      due("the next one stays", x.put(3, 1, 5), 1032);
    });
    says(9, "BAD; ", () -> {
      SandPiano x = new SandPiano();
      x.text(0, 1);
      badBeyond("a text's number", x, 0, 3, t -> x.put(t, 0, 65));
    });
    says(9, "NOTHING; ", () -> {
      SandPiano x = new SandPiano();
      finds("missing", x, NOTHING, () -> x.put(0, 0, 65));
      finds("missing, no such place", x, NOTHING, () -> x.put(3, -1, 65));
    });
    says(9, "BEYOND.", () -> {
      SandPiano x = new SandPiano();
      x.text(0, 3);
      findsBeyond("a place", x, BEYOND, 0, 2, i -> x.put(0, i, 65));
      x.text(0, 0);
      finds("of none", x, BEYOND, () -> x.put(0, 0, 65));
      x.text(0, 60);
      finds("of sixty", x, BEYOND, () -> x.put(0, 60, 65));
    });
  }

  private static void pianos() {
    says(10, "A FAULT of a TEXT; ", () -> {
      SandPiano x = piano("p3k1234");
      write(x, 3, "p1 k12x4");
      long before = x.digest();
      due("its place", x.fault(3), 6);
      due("it stays", x.digest(), before);
      due("it is no finding", x.finding(), 0);
      x.text(3, 0);
      due("of an empty one", x.fault(3), 0);
      x.text(3, 60);
      due("of blanks", x.fault(3), 60);
    });
    says(10, "NONE: there is none. ", () -> {
      SandPiano x = new SandPiano();
      write(x, 3, "p1k1234");
      long before = x.digest();
      due("none", x.fault(3), NONE);
      due("no piano is made", x.digest(), before);
      write(x, 3, "p1");
      due("none without keys", x.fault(3), NONE);
    });
    says(10, "BAD; ", () -> {
      SandPiano x = piano("p1");
      badBeyond("a text's number", x, 0, 3, t -> x.fault(t));
    });
    says(10, "NOTHING.", () -> {
      SandPiano x = piano("p1");
      for (int t = 1; t <= 3; t++) { int n = t; finds("missing " + t, x, NOTHING, () -> x.fault(n)); }
    });
    says(11, "A PIANO by a TEXT ", () -> {
      SandPiano x = piano("p7 k0123 r9994");
      key("the first", x, 0, 0, 0, 12, 3, 0);
      key("the second", x, 1, 5, 9, 99, 4, 1);
      due("its spade", x.spade(1), 7);
    });
    says(11, "(anew: nothing on the BEACH, ", () -> {
      SandPiano x = lived();
      due("something before", x.count(2), 6);
      x.piano(0);
      due("nothing", x.count(2), 0);
      sand("the sand of the text", x, 0, 5, 1);
    });
    says(11, "no DEEDS, ", () -> {
      SandPiano x = lived();
      due("some before", x.count(1), 3);
      x.piano(0);
      due("none", x.count(1), 0);
      due("none to undo", x.undo(0), 0);
      refuses("undo(1)", x, BAD, () -> x.undo(1));
      due("nothing of the sea", x.count(3), 0);
      due("nothing earned", x.count(4), 0);
      due("room for sixty", x.wind(60, 1), 60);
    });
    says(11, "kept PIANOS go): ", () -> {
      SandPiano x = lived();
      for (int k = 0; k <= 2; k++) x.keep(k);
      due("three before", x.count(8), 3);
      x.piano(0);
      due("none", x.count(8), 0);
      for (int k = 0; k <= 2; k++) { int n = k; finds("on(" + k + ")", x, NOTHING, () -> x.on(n)); }
    });
    says(11, "how many KEYS. ", () -> {
      SandPiano x = new SandPiano();
      for (int keys = 0; keys <= 6; keys++) {
        write(x, 1, "p1" + "k0000".repeat(keys));
        due(keys + " keys", x.piano(1), keys);
        due(keys + " keys, counted", x.count(0), keys);
      }
      write(x, 1, "p1");
      due("none again", x.piano(1), 0);
      due("none, counted", x.count(0), 0);
      due("none can be played", x.can(), 0);
    });
    says(11, "BAD; ", () -> {
      SandPiano x = lived();
      badBeyond("a text's number", x, 0, 3, t -> x.piano(t));
    });
    says(11, "NOTHING; ", () -> {
      SandPiano x = lived();
      for (int t = 1; t <= 3; t++) { int n = t; finds("missing " + t, x, NOTHING, () -> x.piano(n)); }
    });
    says(11, "STATE: a FAULT. ", () -> {
      SandPiano x = lived();
      x.keep(1);
      for (String s : new String[] {"", " ", "p", "p0", "p1k", "p1k123", "p1k12345", "p9k1234x", "p1" + "k0000".repeat(7)}) {
        write(x, 2, s);
        refuses("'" + s + "'", x, STATE, () -> x.piano(2));
      }
      sand("the piano stays", x, 6, 1, 4);
      due("its spade stays", x.spade(1), 2);
      due("on(1)", x.on(1), 3);
    });
    says(11, "(STATE behind NOTHING.)", () -> {
      SandPiano x = new SandPiano();
      finds("a missing one", x, NOTHING, () -> x.piano(0));
    });
  }
  /** A piano that had a tide, a dig and a note, and another spade since. */
  private static SandPiano lived() {
    SandPiano x = piano("p6k9054k9010");
    x.tide(3); x.dig(0); x.play(0); x.spade(2);
    sand("lived", x, 6, 1, 4);
    due("lived, the sea", x.count(3), 5);
    due("lived, earned", x.count(4), 4);
    return x;
  }

  private static void keys() {
    says(12, "Of a KEY: 0 its KIND, 1 STRENGTH, 2 SAND, 3 PAY, 4 whether it can be PLAYED (1, 0), told by asked(): 1. ", () -> {
      SandPiano x = piano("p1k3011b4052s0022s0033c9904d1015");
      key("the first", x, 0, 0, 3, 1, 1, 1);
      key("above its strength", x, 1, 1, 4, 5, 2, 0);
      key("a shell, 2 above", x, 2, 2, 0, 2, 2, 1);
      key("a shell, 3 above", x, 3, 2, 0, 3, 3, 0);
      key("ninety", x, 4, 3, 9, 90, 4, 0);
      key("the last", x, 5, 4, 1, 1, 5, 1);
      key("a ring", piano("p1r0999"), 0, 5, 0, 99, 9, 1);
      x.tide(3);
      key("later", x, 0, 0, 3, 4, 1, 0);
    });
    says(12, "BAD.", () -> {
      SandPiano x = piano("p1k3011b4052");
      badBeyond("a key", x, 0, 1, i -> x.key(i, 0));
      badBeyond("what", x, 0, 4, what -> x.key(0, what));
      SandPiano y = new SandPiano();
      refuses("no keys", y, BAD, () -> y.key(0, 0));
      // A key of an earlier piano is none of the next one.
      write(x, 0, "p1k0000");
      x.piano(0);
      refuses("a key that went", x, BAD, () -> x.key(1, 0));
    });
  }

  private static void marks() {
    says(13, "What a KEY that IS of a KIND tells: ", () -> {
      SandPiano x = piano("p1d0050r3990");
      due("a drum as a bass", x.mark(0, 1), 2);
      due("a drum as a drum", x.mark(0, 4), 0);
      due("a ring as a shell", x.mark(1, 2), 96);
      due("a ring as a ring", x.mark(1, 5), 1);
      due("no deed", x.count(1), 0);
      due("not asked", x.asked(), 0);
    });
    says(13, "a BASS (DRUM, too) how many grains it would throw now, ", () -> {
      SandPiano x = piano("p1b9000b9010b9020b9990d9000d9010");
      int[] due = {0, 1, 2, 2, 0, 1};
      for (int i = 0; i < 6; i++) due("key " + i, x.mark(i, 1), due[i]);
      due("a drum with 2", piano("p1d9020").mark(0, 1), 2);
      due("a drum with 99", piano("p1d9990").mark(0, 1), 2);
    });
    says(13, "a SHELL (RING, too) by how many grains it has more than its STRENGTH (0: by none), ", () -> {
      SandPiano x = piano("p1s9000s9090s9100s0990r5040r5060");
      int[] due = {0, 0, 1, 99, 0, 1};
      for (int i = 0; i < 6; i++) due("key " + i, x.mark(i, 2), due[i]);
    });
    says(13, "a CRAB how many grains it could carry by and by (what lies where it takes them from), ", () -> {
      SandPiano x = piano("p1c9000c9070c9000");
      due("the first, an empty beach", x.mark(0, 3), 0);
      due("an empty key ahead", x.mark(1, 3), 0);
      due("seven ahead", x.mark(2, 3), 7);
      x.dig(1);
      due("the first, a grain on the beach", x.mark(0, 3), 1);
      due("six ahead", x.mark(2, 3), 6);
      SandPiano y = piano("p9c9050c9000");
      due("the second, five ahead", y.mark(1, 3), 5);
      y.dig(0);
      due("the second, all on the beach", y.mark(1, 3), 0);
      due("the first, all on the beach", y.mark(0, 3), 5);
    });
    says(13, "a DRUM how many KEYS are on its left, ", () -> {
      SandPiano x = piano("p1d0000k0000d0990k0000k0000d0000");
      for (int i : new int[] {0, 2, 5}) due("key " + i, x.mark(i, 4), i);
    });
    says(13, "a RING how many KEYS that can't be PLAYED there are. ", () -> {
      due("none", piano("p1r0990").mark(0, 5), 0);
      due("none of six", piano("p1r0990k0000b0000s0020c0000d0000").mark(0, 5), 0);
      due("five of six", piano("p1k0010b0010s0030c0010d0010r0000").mark(5, 5), 5);
    });
    says(13, "BAD: also KIND 0; ", () -> {
      SandPiano x = piano("p1k0000b0000");
      refuses("kind 0 of a key", x, BAD, () -> x.mark(0, 0));
      refuses("kind 0 of a bass", x, BAD, () -> x.mark(1, 0));
      badBeyond("a kind", x, 1, 5, kind -> x.mark(1, kind));
      badBeyond("a key", x, 0, 1, i -> x.mark(i, 1));
      SandPiano y = new SandPiano();
      refuses("no keys", y, BAD, () -> y.mark(0, 1));
    });
    says(13, "UNLIKE.", () -> {
      SandPiano x = piano("p1k0000b0000s0000c0000d0000r0000");
      int[][] unlike = {{1, 2, 3, 4, 5}, {2, 3, 4, 5}, {1, 3, 4, 5}, {1, 2, 4, 5}, {2, 3, 5}, {1, 3, 4}};
      for (int i = 0; i < 6; i++) {
        int key = i;
        for (int kind : unlike[i]) finds("key " + i + " as a kind " + kind, x, UNLIKE, () -> x.mark(key, kind));
      }
    });
  }

  private static void spades() {
    says(14, "The SPADE is v (1 .. 9): what it was. ", () -> {
      SandPiano x = piano("p5k0990");
      due("the least", x.spade(1), 5);
      due("a grain", x.dig(0), 1);
      due("the greatest", x.spade(9), 1);
      due("nine grains", x.dig(0), 9);
      due("the same", x.spade(9), 9);
      due("no deeds", x.count(1), 2);
    });
    says(14, "BAD; ", () -> {
      SandPiano x = piano("p5k0990");
      badBeyond("a spade", x, 1, 9, v -> x.spade(v));
    });
    says(14, "STATE: no KEYS.", () -> {
      SandPiano x = new SandPiano();
      refuses("a new object", x, STATE, () -> x.spade(1));
      SandPiano y = piano("p7");
      refuses("a piano without keys", y, STATE, () -> y.spade(9));
      refuses("BAD ahead", y, BAD, () -> y.spade(10));
    });
  }
}
