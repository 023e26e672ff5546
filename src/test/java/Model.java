import java.math.BigInteger;
import java.util.ArrayList;
import java.util.Arrays;
import java.util.HashMap;
import java.util.HashSet;
import java.util.List;
import java.util.Map;
import java.util.Set;
import java.util.function.UnaryOperator;
import java.util.regex.Matcher;
import java.util.regex.Pattern;

/**
 * The document told once more, by other means than the class uses: states that never change, deeds that are done anew
 * from the first one on, rows of notes tried whole one behind the other, texts read by patterns.
 */
final class Model {
  static final int BAD = -1, FULL = -2, FINDING = -3, STATE = -4, NONE = -9;
  private static final String LETTERS = "kbscdr";

  record Key(char letter, int strength, int pay) {
    boolean is(int kind) {
      switch (kind) {
        case 1: return letter == 'b' || letter == 'd';
        case 2: return letter == 's' || letter == 'r';
        default: return LETTERS.indexOf(letter) == kind;
      }
    }
  }

  record State(List<Integer> sand, int beach, int sea, int earned) {
    State with(int i, int grains) {
      if (i < 0 || i >= sand.size()) return new State(sand, beach + grains, sea, earned);
      List<Integer> next = new ArrayList<>(sand);
      next.set(i, next.get(i) + grains);
      return new State(List.copyOf(next), beach, sea, earned);
    }
    int lies(int i) { return i < 0 || i >= sand.size() ? beach : sand.get(i); }
    State moved(int from, int to, int grains) {
      int g = Math.min(grains, lies(from));
      return with(from, -g).with(to, g);
    }
  }

  record Kept(List<UnaryOperator<State>> deeds, int spade) { }

  private final Integer[][] rows = new Integer[6][];
  private final Byte[][] texts = new Byte[4][];
  private List<Key> keys = List.of();
  private State start = new State(List.of(), 0, 0, 0);
  private List<UnaryOperator<State>> deeds = new ArrayList<>();
  private int spade = 1;
  private final Kept[] kept = new Kept[3];
  private int asked, finding;
  private final int[] findings = new int[6];
  private BigInteger upper = BigInteger.ZERO, lower = BigInteger.ONE;

  private int refused(int f) { finding = f; findings[f]++; return FINDING; }
  private static boolean out(int v, int least, int most) { return v < least || v > most; }

  private State now() {
    State s = start;
    for (UnaryOperator<State> deed : deeds) s = deed.apply(s);
    return s;
  }
  private boolean can(State s, int i) {
    Key k = keys.get(i);
    if (k.letter == 'r') return true;
    return s.sand.get(i) <= k.strength + (k.letter == 's' ? 2 : 0);
  }
  private State played(State s, int i) {
    State t = s;
    switch (keys.get(i).letter) {
      case 'k': t = t.moved(i, i + 1, 1); break;
      case 'b': t = t.moved(i, i - 1, 2); break;
      case 'd': t = t.moved(i, i - 1, 1).moved(i, i + 1, 1); break;
      case 'c': t = t.moved(i - 1, i, 1); break;
      default: break;
    }
    return new State(t.sand, t.beach, t.sea, t.earned + keys.get(i).pay);
  }
  private State flooded(State s, int h) {
    State t = s;
    for (int i = 0; i < keys.size(); i++) t = t.with(i, Math.max(0, h - i));
    int came = t.sand.stream().mapToInt(v -> v).sum() - s.sand.stream().mapToInt(v -> v).sum();
    return new State(t.sand, t.beach, t.sea + came, t.earned);
  }
  private State blown(State s, int way) {
    List<Integer> next = new ArrayList<>(s.sand);
    int lost = next.remove(way == 0 ? 0 : next.size() - 1);
    next.add(way == 0 ? next.size() : 0, 0);
    return new State(List.copyOf(next), s.beach + lost, s.sea, s.earned);
  }
  /** The state behind all notes, or null. */
  private State playedAll(State s, List<Integer> notes) {
    State t = s;
    for (int note : notes) {
      if (!can(t, note)) return null;
      t = played(t, note);
    }
    return t;
  }
  /** All rows of n keys in their order. */
  private List<List<Integer>> allRows(int n) {
    List<List<Integer>> all = new ArrayList<>();
    long many = 1;
    for (int i = 0; i < n; i++) many *= keys.size();
    for (long c = 0; c < many; c++) {
      Integer[] row = new Integer[n];
      long rest = c;
      for (int i = n - 1; i >= 0; i--) { row[i] = (int) (rest % keys.size()); rest /= keys.size(); }
      all.add(Arrays.asList(row));
    }
    return all;
  }
  private void newRow(int r, List<Integer> values) { rows[r] = values.toArray(new Integer[0]); }

  int row(int r, int n) {
    if (out(r, 0, 5) || n > 40) return BAD;
    if (n < 0) return refused(5);
    rows[r] = new Integer[n];
    Arrays.fill(rows[r], 0);
    return n;
  }
  int lay(int r, int i, int v) {
    int answer = at(r, i);
    if (answer == 1) rows[r][i] = v;
    return answer;
  }
  int at(int r, int i) {
    if (out(r, 0, 5)) return BAD;
    if (rows[r] == null) return refused(1);
    if (out(i, 0, rows[r].length - 1)) return refused(2);
    asked = rows[r][i];
    return 1;
  }
  int tear(int r) {
    if (out(r, 0, 5)) return BAD;
    if (rows[r] == null) return refused(1);
    rows[r] = null;
    return 1;
  }
  int copy(int r, int i, int to, int j, int n) {
    if (out(r, 0, 5) || out(to, 0, 5)) return BAD;
    if (n < 0) return refused(5);
    if (rows[r] == null || rows[to] == null) return refused(1);
    if (i < 0 || j < 0 || (long) i + n > rows[r].length || (long) j + n > rows[to].length) return refused(2);
    Integer[] taken = Arrays.copyOfRange(rows[r], i, i + n);
    for (int k = 0; k < n; k++) rows[to][j + k] = taken[k];
    return 1;
  }
  int mean(int r) {
    if (out(r, 0, 5)) return BAD;
    if (rows[r] == null) return refused(1);
    if (rows[r].length == 0) return refused(4);
    BigInteger sum = BigInteger.ZERO;
    for (int v : rows[r]) sum = sum.add(BigInteger.valueOf(v));
    asked = sum.divide(BigInteger.valueOf(rows[r].length)).intValueExact();
    return 1;
  }
  int text(int t, int n) {
    if (out(t, 0, 3) || n > 60) return BAD;
    if (n < 0) return refused(5);
    texts[t] = new Byte[n];
    Arrays.fill(texts[t], (byte) 32);
    return n;
  }
  int put(int t, int i, int v) {
    if (out(t, 0, 3)) return BAD;
    if (texts[t] == null) return refused(1);
    if (out(i, 0, texts[t].length - 1)) return refused(2);
    int was = texts[t][i];
    texts[t][i] = (byte) v;
    return was + 1000;
  }
  private String told(int t) {
    StringBuilder s = new StringBuilder();
    for (byte b : texts[t]) s.append((char) (b & 255));
    return s.toString();
  }
  private static final Pattern WHOLE = Pattern.compile(" *p[1-9] *([kbscdr][0-9]{4} *){0,6}");
  /** The longest beginning of a text that some piano also begins with: there the fault is. */
  int fault(int t) {
    if (out(t, 0, 3)) return BAD;
    if (texts[t] == null) return refused(1);
    String s = told(t);
    if (WHOLE.matcher(s).matches()) return NONE;
    for (int n = s.length(); n > 0; n--) {
      Matcher m = WHOLE.matcher(s.substring(0, n));
      if (m.matches() || m.hitEnd()) return n;
    }
    return 0;
  }
  int piano(int t) {
    if (out(t, 0, 3)) return BAD;
    if (texts[t] == null) return refused(1);
    String s = told(t);
    if (!WHOLE.matcher(s).matches()) return STATE;
    String items = s.replace(" ", "");
    spade = items.charAt(1) - '0';
    List<Key> newKeys = new ArrayList<>();
    List<Integer> sand = new ArrayList<>();
    for (int p = 2; p < items.length(); p += 5) {
      newKeys.add(new Key(items.charAt(p), items.charAt(p + 1) - '0', items.charAt(p + 4) - '0'));
      sand.add(Integer.parseInt(items.substring(p + 2, p + 4)));
    }
    keys = newKeys;
    start = new State(List.copyOf(sand), 0, 0, 0);
    deeds = new ArrayList<>();
    Arrays.fill(kept, null);
    return keys.size();
  }
  private int tells(int i, int what) {
    Key k = keys.get(i);
    int[] all = {LETTERS.indexOf(k.letter), k.strength, now().sand.get(i), k.pay, can(now(), i) ? 1 : 0};
    return all[what];
  }
  int key(int i, int what) {
    if (out(i, 0, keys.size() - 1) || out(what, 0, 4)) return BAD;
    asked = tells(i, what);
    return 1;
  }
  int mark(int i, int kind) {
    if (out(i, 0, keys.size() - 1) || out(kind, 1, 5)) return BAD;
    if (!keys.get(i).is(kind)) return refused(3);
    State s = now();
    switch (kind) {
      case 1: return s.sand.get(i) - played(s, i).sand.get(i);
      case 2: return Math.max(0, s.sand.get(i) - keys.get(i).strength);
      case 3: return s.lies(i - 1);
      case 4: return i;
      default: return keys.size() - Integer.bitCount(can());
    }
  }
  int spade(int v) {
    if (out(v, 1, 9)) return BAD;
    if (keys.isEmpty()) return STATE;
    int was = spade;
    spade = v;
    return was;
  }
  int play(int i) {
    if (out(i, 0, keys.size() - 1)) return BAD;
    if (!can(now(), i)) return STATE;
    if (deeds.size() >= 60) return FULL;
    deeds.add(s -> played(s, i));
    return keys.get(i).pay;
  }
  int tide(int h) {
    if (out(h, 0, 9)) return BAD;
    if (keys.isEmpty()) return STATE;
    if (deeds.size() >= 60) return FULL;
    int before = now().sea;
    deeds.add(s -> flooded(s, h));
    return now().sea - before;
  }
  int storm(int way) {
    if (out(way, 0, 1)) return BAD;
    if (keys.isEmpty()) return STATE;
    if (deeds.size() >= 60) return FULL;
    int before = now().beach;
    deeds.add(s -> blown(s, way));
    return now().beach - before;
  }
  int dig(int i) {
    if (out(i, 0, keys.size() - 1)) return BAD;
    if (deeds.size() >= 60) return FULL;
    int before = now().beach;
    int full = spade;
    deeds.add(s -> s.moved(i, -1, full));
    return now().beach - before;
  }
  int undo(int n) {
    if (out(n, 0, deeds.size())) return BAD;
    int undone = deeds.size() - n;
    deeds = new ArrayList<>(deeds.subList(0, n));
    return undone;
  }
  int can() {
    int bits = 0;
    State s = now();
    for (int i = 0; i < keys.size(); i++) if (can(s, i)) bits |= 1 << i;
    return bits;
  }
  int keep(int k) {
    if (out(k, 0, 2)) return BAD;
    if (keys.isEmpty()) return STATE;
    kept[k] = new Kept(List.copyOf(deeds), spade);
    return deeds.size();
  }
  int on(int k) {
    if (out(k, 0, 2)) return BAD;
    if (kept[k] == null) return refused(1);
    deeds = new ArrayList<>(kept[k].deeds);
    spade = kept[k].spade;
    return deeds.size();
  }
  private int pieceFinding(int r) {
    if (rows[r] == null) return 1;
    if (rows[r].length > 12) return 5;
    for (int v : rows[r]) if (out(v, 0, keys.size() - 1)) return 3;
    return 0;
  }
  private int playableNotes(State s, List<Integer> notes) {
    int n = 0;
    while (n < notes.size() && playedAll(s, notes.subList(0, n + 1)) != null) n++;
    return n;
  }
  int judge(int r) {
    if (out(r, 0, 5)) return BAD;
    int f = pieceFinding(r);
    if (f != 0) return refused(f);
    List<Integer> notes = Arrays.asList(rows[r]);
    int n = playableNotes(now(), notes);
    asked = playedAll(now(), notes.subList(0, n)).beach - now().beach;
    return n;
  }
  int earns(int r) {
    if (out(r, 0, 5)) return BAD;
    int f = pieceFinding(r);
    if (f != 0) return refused(f);
    List<Integer> notes = Arrays.asList(rows[r]);
    int sum = 0;
    for (int note : notes.subList(0, playableNotes(now(), notes))) sum += keys.get(note).pay;
    return sum;
  }
  private static boolean rising(List<Integer> row) {
    for (int i = 1; i < row.size(); i++) if (row.get(i) < row.get(i - 1)) return false;
    return true;
  }
  int digs(int r, int to) {
    if (out(r, 0, 5) || out(to, 0, 5)) return BAD;
    int f = pieceFinding(r);
    if (f != 0) return refused(f);
    for (int n = 0; n <= 4; n++) {
      for (List<Integer> dug : allRows(n)) {
        if (!rising(dug)) continue;
        State s = now();
        for (int i : dug) s = s.moved(i, -1, spade);
        if (playedAll(s, Arrays.asList(rows[r])) != null) { newRow(to, dug); return n; }
      }
    }
    return NONE;
  }
  int lasts(int r, int h) {
    if (out(r, 0, 5) || out(h, 0, 9)) return BAD;
    int f = pieceFinding(r);
    if (f != 0) return refused(f);
    State s = now();
    int tides = 0;
    while (tides < 20) {
      s = flooded(s, h);
      if (playedAll(s, Arrays.asList(rows[r])) == null) break;
      tides++;
    }
    return tides;
  }
  int duet(int k, int r) {
    if (out(k, 0, 2) || out(r, 0, 5)) return BAD;
    int f = kept[k] == null ? 1 : pieceFinding(r);
    if (f != 0) return refused(f);
    State[] two = {now(), start};
    for (UnaryOperator<State> deed : kept[k].deeds) two[1] = deed.apply(two[1]);
    for (int i = 0; i < rows[r].length; i++) {
      if (!can(two[i & 1], rows[r][i])) return i;
      two[i & 1] = played(two[i & 1], rows[r][i]);
    }
    return rows[r].length;
  }
  int most(int r) {
    if (out(r, 0, 5)) return BAD;
    if (keys.isEmpty()) return STATE;
    for (int n = keys.size(); n > 0; n--) {
      for (List<Integer> row : allRows(n)) {
        if (new HashSet<>(row).size() == n && playedAll(now(), row) != null) { newRow(r, row); return n; }
      }
    }
    newRow(r, List.of());
    return 0;
  }
  int best(int n, int r) {
    if (out(n, 0, 5) || out(r, 0, 5)) return BAD;
    if (keys.isEmpty()) return STATE;
    int best = NONE;
    State s = now();
    for (List<Integer> row : allRows(n)) {
      State t = playedAll(s, row);
      if (t != null && t.earned - s.earned > best) { best = t.earned - s.earned; newRow(r, row); }
    }
    return best;
  }
  int rows(int n) {
    if (out(n, 0, 4)) return BAD;
    if (keys.isEmpty()) return STATE;
    int many = 0;
    State s = now();
    Set<List<Integer>> left = new HashSet<>();
    for (List<Integer> row : allRows(n)) {
      State t = playedAll(s, row);
      if (t != null) { many++; left.add(t.sand); }
    }
    asked = left.size();
    return many;
  }
  int back(int r, int n, int to) {
    if (out(r, 0, 5) || out(n, 0, 4) || out(to, 0, 5)) return BAD;
    if (keys.isEmpty()) return STATE;
    if (rows[r] == null) return refused(1);
    if (rows[r].length != keys.size()) return refused(5);
    for (int v : rows[r]) if (out(v, 0, 999)) return refused(3);
    State was = new State(List.of(rows[r]), 0, 0, 0);
    List<Integer> is = now().sand;
    List<List<Integer>> ways = new ArrayList<>();
    for (List<Integer> row : allRows(n)) {
      State t = playedAll(was, row);
      if (t != null && t.sand.equals(is)) ways.add(row);
    }
    if (!ways.isEmpty()) newRow(to, ways.get(0));
    return ways.size();
  }
  private int songFinding(int r) {
    if (rows[r] == null) return 1;
    if (rows[r].length % 2 == 1) return 5;
    for (int i = 0; i < rows[r].length; i++) {
      if (out(rows[r][i], 0, i % 2 == 0 ? keys.size() - 1 : 1)) return 3;
    }
    return 0;
  }
  private Set<Integer> ringSet(int r) {
    Set<Integer> places = new HashSet<>();
    for (int ring = 0; ring < keys.size(); ring++) {
      boolean fits = true;
      for (int i = 0; i < rows[r].length; i += 2) {
        boolean sings = Math.abs(rows[r][i] - ring) <= 1;
        fits &= sings == (rows[r][i + 1] == 1);
      }
      if (fits) places.add(ring);
    }
    return places;
  }
  int ring(int r) {
    if (out(r, 0, 5)) return BAD;
    int f = songFinding(r);
    if (f != 0) return refused(f);
    int bits = 0;
    for (int i : ringSet(r)) bits |= 1 << i;
    return bits;
  }
  int strike(int r) {
    if (out(r, 0, 5)) return BAD;
    int f = songFinding(r);
    if (f != 0) return refused(f);
    Set<Integer> places = ringSet(r);
    if (places.isEmpty()) return NONE;
    int choice = -1, fewest = 99;
    for (int i = 0; i < keys.size(); i++) {
      int key = i;
      int sung = (int) places.stream().filter(p -> Math.abs(p - key) <= 1).count();
      int worst = Math.max(sung, places.size() - sung);
      if (worst < fewest) { fewest = worst; choice = i; }
    }
    asked = fewest;
    return choice;
  }
  private int chances(BigInteger u, BigInteger l) {
    BigInteger g = u.gcd(l);
    upper = u.divide(g);
    lower = l.divide(g);
    return 1;
  }
  int tune(int r) {
    if (out(r, 0, 5)) return BAD;
    int f = pieceFinding(r);
    if (f != 0) return refused(f);
    BigInteger l = BigInteger.ONE;
    State s = now();
    for (int note : rows[r]) {
      if (!can(s, note)) return chances(BigInteger.ZERO, BigInteger.ONE);
      l = l.multiply(BigInteger.valueOf(open(s).size()));
      s = played(s, note);
    }
    return chances(BigInteger.ONE, l);
  }
  private List<Integer> open(State s) {
    List<Integer> all = new ArrayList<>();
    for (int i = 0; i < keys.size(); i++) if (can(s, i)) all.add(i);
    return all;
  }
  int bet(int i, int n) {
    if (out(i, 0, keys.size() - 1) || out(n, 0, 5)) return BAD;
    // Likelihoods of states, each in parts of 720^n: 720 is divided by 1 .. 6.
    Map<State, BigInteger> parts = new HashMap<>();
    parts.put(now(), BigInteger.valueOf(720).pow(n));
    for (int note = 0; note < n; note++) {
      Map<State, BigInteger> next = new HashMap<>();
      parts.forEach((s, p) -> {
        List<Integer> open = open(s);
        if (open.isEmpty()) next.merge(s, p, BigInteger::add);
        for (int k : open) next.merge(played(s, k), p.divide(BigInteger.valueOf(open.size())), BigInteger::add);
      });
      parts = next;
    }
    BigInteger sum = BigInteger.ZERO;
    for (Map.Entry<State, BigInteger> e : parts.entrySet()) if (can(e.getKey(), i)) sum = sum.add(e.getValue());
    return chances(sum, BigInteger.valueOf(720).pow(n));
  }
  int wind(int n, int seed) {
    if (out(n, 1, 60) || out(seed, 1, 2147483646)) return BAD;
    if (keys.isEmpty()) return STATE;
    if (deeds.size() + n > 60) return FULL;
    BigInteger lot = BigInteger.valueOf(seed);
    for (int i = 0; i < n; i++) {
      List<Integer> open = open(now());
      if (open.isEmpty()) return i;
      lot = lot.multiply(BigInteger.valueOf(48271)).mod(BigInteger.valueOf(2147483647));
      play(open.get(lot.mod(BigInteger.valueOf(open.size())).intValue()));
    }
    return n;
  }
  int asked() { return asked; }
  long upper() { return upper.longValueExact(); }
  long lower() { return lower.longValueExact(); }
  private static int there(Object[] all) {
    int n = 0;
    for (Object o : all) if (o != null) n++;
    return n;
  }
  int count(int what) {
    State s = now();
    int[] all = {keys.size(), deeds.size(), s.beach, s.sea, s.earned, (int) keys.stream().filter(k -> k.is(1)).count(),
      there(rows), there(texts), there(kept)};
    return out(what, 0, 8) ? BAD : all[what];
  }
  int finding() { return finding; }
  int findings(int f) { return out(f, 1, 5) ? BAD : findings[f]; }
  long digest() {
    List<Integer> all = new ArrayList<>();
    for (int what = 0; what < 9; what++) all.add(count(what));
    all.add(spade);
    for (int i = 0; i < keys.size(); i++) for (int what = 0; what < 5; what++) all.add(tells(i, what));
    for (Kept k : kept) all.add(k == null ? -1 : k.deeds.size());
    for (Integer[] row : rows) {
      all.add(row == null ? -1 : row.length);
      if (row != null) all.addAll(Arrays.asList(row));
    }
    for (Byte[] text : texts) {
      all.add(text == null ? -1 : text.length);
      if (text != null) for (byte b : text) all.add((int) b);
    }
    long h = 17;
    for (int v : all) h = 31 * h + v;
    return h;
  }
}
