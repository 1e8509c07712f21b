import java.math.BigInteger;
import java.util.ArrayDeque;
import java.util.ArrayList;
import java.util.Arrays;
import java.util.HashMap;
import java.util.List;
import java.util.Map;
import java.util.regex.Matcher;
import java.util.regex.Pattern;

/**
 * The document's answers by other ways than the class's: a reading by patterns that lists all FAULTS, augmenting paths,
 * all sets of threads, fractions of big numbers. TROUBLE is left to its caller.
 */
final class Model {
  static final class Thread {
    int kind, a, b, told, step, age;
    boolean snapped;

    Thread copy() {
      Thread t = new Thread();
      t.kind = kind;
      t.a = a;
      t.b = b;
      t.told = told;
      t.step = step;
      t.age = age;
      t.snapped = snapped;
      return t;
    }

    int strength(int more) {
      if (snapped) return 0;
      int s = told;
      for (int y = 1; y <= age + more; y++) {
        if (kind == 1) s = Math.max(0, s - step);
        if (kind == 2) s = Math.min(99, s + step);
      }
      return kind == 3 && age + more >= step ? 0 : s;
    }
  }

  static final class State {
    List<Thread> threads = new ArrayList<>();
    int years;

    State copy() {
      State s = new State();
      for (Thread t : threads) s.threads.add(t.copy());
      s.years = years;
      return s;
    }
  }

  int slips, clerks, nails;
  State now = new State();
  final List<int[]> clashes = new ArrayList<>(), loads = new ArrayList<>(), offers = new ArrayList<>(), hairs = new ArrayList<>();
  final List<Integer> unsure = new ArrayList<>();
  final List<Thread> toldThreads = new ArrayList<>();
  final ArrayDeque<State> past = new ArrayDeque<>();
  final List<State> images = new ArrayList<>();
  int fault, place;

  // ---- reading

  private static final List<String> SORTS = Arrays.asList("web", "nail", "thread", "clash", "load", "offer", "unsure", "hair");
  private static final int[] ROOM = {1, 7, 7, 8, 4, 5, 5, 6};
  private static final String[] SHAPES = {"slips 0-100 clerks 0-100", "!nail", "!thread KIND nail =nail strong 1-99 step 0-20",
      "thread =thread", "nail =nail 1-300", "nail =nail strong 1-99 costs 0-99", "thread", "thread thread HOW"};

  private void report(int number, int at) {
    if (fault == 0 || at < place || at == place && number < fault) {
      fault = number;
      place = at;
    }
  }

  static Model read(String text) {
    Model m = new Model();
    m.readAll(text);
    return m;
  }

  private void readAll(String text) {
    List<String> tokens = new ArrayList<>();
    List<Integer> places = new ArrayList<>();
    Matcher m = Pattern.compile("[a-z]+|[0-9]+|[^ ]", Pattern.DOTALL).matcher(text);
    while (m.find()) {
      tokens.add(m.group());
      places.add(m.start());
    }
    tokens.add("");
    places.add(text.length());
    int[] at = {0};
    int[] counts = new int[8];
    Map<String, int[]> names = new HashMap<>();
    while (true) {
      if (!readLine(tokens, places, at, counts, names)) return;
      String behind = tokens.get(at[0]);
      if (behind.isEmpty()) break;
      if (!behind.equals(";")) {
        report(1, places.get(at[0]));
        return;
      }
      at[0]++;
    }
    if (counts[1] == 0) report(6, text.length());
  }

  /** False where FORM ends the reading; other FAULTS are reported, and the reading goes on as well as it can. */
  private boolean readLine(List<String> tokens, List<Integer> places, int[] at, int[] counts, Map<String, int[]> names) {
    int start = places.get(at[0]);
    int sort = SORTS.indexOf(tokens.get(at[0]));
    if (sort < 0) {
      report(1, start);
      return false;
    }
    if (sort == 0 && counts[0] > 0) report(3, start);
    if (sort != 0 && counts[0] == 0) report(6, start);
    if (sort != 0 && counts[sort] >= ROOM[sort]) report(5, start);
    at[0]++;
    List<Integer> got = new ArrayList<>();
    for (String want : SHAPES[sort].split(" ")) {
      String token = tokens.get(at[0]);
      int here = places.get(at[0]);
      if (!fitsShape(want, token)) {
        report(1, here);
        return false;
      }
      take(want, token, here, got, counts, names);
      at[0]++;
    }
    int last = places.get(at[0] - 1);
    keep(sort, got, last);
    counts[sort]++;
    return true;
  }

  private static boolean fitsShape(String want, String token) {
    if (want.matches("[0-9]+-[0-9]+")) return token.matches("[0-9]{1,3}");
    if (want.equals("KIND")) return token.matches("kept|fading|proving|lied");
    if (want.equals("HOW")) return token.matches("brown|clear");
    if (want.matches("[!=]?(nail|thread)")) return token.matches("[a-z]{1,8}") && !SORTS.contains(token);
    return token.equals(want);
  }

  private void take(String want, String token, int here, List<Integer> got, int[] counts, Map<String, int[]> names) {
    if (want.contains("-")) {
      String[] bounds = want.split("-");
      int value = Integer.parseInt(token);
      if (value < Integer.parseInt(bounds[0]) || value > Integer.parseInt(bounds[1])) report(4, here);
      got.add(value);
    } else if (want.equals("KIND")) {
      got.add(Arrays.asList("kept", "fading", "proving", "lied").indexOf(token));
    } else if (want.equals("HOW")) {
      got.add(token.equals("brown") ? 1 : 0);
    } else if (want.startsWith("!")) {
      int sort = SORTS.indexOf(want.substring(1));
      if (names.containsKey(token)) report(3, here);
      else names.put(token, new int[] {sort, counts[sort]});
    } else if (want.endsWith("nail") || want.endsWith("thread")) {
      int[] named = names.get(token);
      boolean right = named != null && named[0] == SORTS.indexOf(want.replace("=", ""));
      if (!right) report(2, here);
      got.add(right ? named[1] : -1);
      if (right && want.startsWith("=") && got.get(got.size() - 2) == named[1]) report(3, here);
    }
  }

  private void keep(int sort, List<Integer> got, int last) {
    int[] row = got.stream().mapToInt(i -> i).toArray();
    if (sort == 0) {
      slips = row[0];
      clerks = row[1];
    }
    if (sort == 1) nails++;
    if (sort == 2) {
      Thread t = new Thread();
      t.kind = row[0];
      t.a = row[1];
      t.b = row[2];
      t.told = row[3];
      t.step = row[4];
      now.threads.add(t);
      toldThreads.add(t.copy());
    }
    if (sort == 3) {
      for (int[] c : clashes)
        if (row[0] >= 0 && row[1] >= 0 && (c[0] == row[0] && c[1] == row[1] || c[0] == row[1] && c[1] == row[0])) report(3, last);
      clashes.add(row);
    }
    if (sort == 4) loads.add(row);
    if (sort == 5) offers.add(row);
    if (sort == 6) {
      if (row[0] >= 0 && unsure.contains(row[0])) report(3, last);
      unsure.add(row[0]);
    }
    if (sort == 7) hairs.add(row);
  }

  // ---- threads as edges

  /** {one nail, other nail, strength, number} of those that HOLD. */
  List<int[]> edges(int n) {
    List<int[]> all = new ArrayList<>();
    for (int t = 0; t < now.threads.size(); t++) {
      Thread h = now.threads.get(t);
      if (h.strength(n) > 0) all.add(new int[] {h.a, h.b, h.strength(n), t});
    }
    return all;
  }

  static int bits(List<int[]> edges) {
    int bits = 0;
    for (int[] e : edges) bits |= 1 << e[3];
    return bits;
  }

  static List<int[]> without(List<int[]> edges, int bits) {
    List<int[]> rest = new ArrayList<>();
    for (int[] e : edges) if ((bits >> e[3] & 1) == 0) rest.add(e);
    return rest;
  }

  static int sum(List<int[]> edges, int bits) {
    int sum = 0;
    for (int[] e : edges) if ((bits >> e[3] & 1) == 1) sum += e[2];
    return sum;
  }

  /** By augmenting paths, a unit at a time where it must be. */
  int flow(List<int[]> edges, int a, int b) {
    int[][] room = new int[nails][nails];
    for (int[] e : edges) {
      room[e[0]][e[1]] += e[2];
      room[e[1]][e[0]] += e[2];
    }
    int total = 0;
    while (true) {
      int much = push(room, a, b, new boolean[nails], Integer.MAX_VALUE);
      if (much == 0) return total;
      total += much;
    }
  }

  private int push(int[][] room, int from, int to, boolean[] seen, int much) {
    if (from == to) return much;
    seen[from] = true;
    for (int next = 0; next < nails; next++) {
      if (!seen[next] && room[from][next] > 0) {
        int led = push(room, next, to, seen, Math.min(much, room[from][next]));
        if (led > 0) {
          room[from][next] -= led;
          room[next][from] += led;
          return led;
        }
      }
    }
    return 0;
  }

  int cut(int a, int b, int n) {
    List<int[]> edges = edges(n);
    int much = flow(edges, a, b);
    int held = bits(edges);
    int best = -1;
    for (int set = 0; set < 256; set++) {
      if ((set & ~held) != 0 || sum(edges, set) != much || flow(without(edges, set), a, b) != 0) continue;
      if (best < 0 || Integer.bitCount(set) < Integer.bitCount(best)) best = set;
    }
    return best;
  }

  int vital(int a, int b, int n) {
    int best = -2;
    int least = Integer.MAX_VALUE;
    for (int[] e : edges(n)) {
      int much = flow(without(edges(n), 1 << e[3]), a, b);
      if (much < least) {
        least = much;
        best = e[3];
      }
    }
    return best;
  }

  int needed(int a, int b, int n) {
    int bits = 0;
    for (int[] e : edges(n)) if (flow(without(edges(n), 1 << e[3]), a, b) < flow(edges(n), a, b)) bits |= 1 << e[3];
    return bits;
  }

  int weakest(int n) {
    int best = -2;
    int least = Integer.MAX_VALUE;
    for (int a = 0; a < nails; a++)
      for (int b = a + 1; b < nails; b++)
        if (flow(edges(n), a, b) < least) {
          least = flow(edges(n), a, b);
          best = 10 * a + b;
        }
    return best;
  }

  private int[][] distances(List<int[]> edges) {
    int[][] d = new int[nails][nails];
    for (int i = 0; i < nails; i++) Arrays.fill(d[i], 1000);
    for (int i = 0; i < nails; i++) d[i][i] = 0;
    for (int[] e : edges) d[e[0]][e[1]] = d[e[1]][e[0]] = Math.min(1, d[e[0]][e[1]]);
    for (int k = 0; k < nails; k++)
      for (int i = 0; i < nails; i++)
        for (int j = 0; j < nails; j++) d[i][j] = Math.min(d[i][j], d[i][k] + d[k][j]);
    return d;
  }

  int apart(int a, int b, int n) {
    int d = distances(edges(n))[a][b];
    return d >= 1000 ? -2 : d;
  }

  int parts(List<int[]> edges) {
    int[][] d = distances(edges);
    int parts = 0;
    for (int i = 0; i < nails; i++) {
      boolean first = true;
      for (int j = 0; j < i; j++) first &= d[i][j] >= 1000;
      if (first) parts++;
    }
    return parts;
  }

  int bridges(int n) {
    int bits = 0;
    for (int[] e : edges(n)) if (parts(without(edges(n), 1 << e[3])) > parts(edges(n))) bits |= 1 << e[3];
    return bits;
  }

  // ---- loads and offers

  boolean isBorne(List<int[]> edges, int k) {
    int[] load = loads.get(k);
    return flow(edges, load[0], load[1]) >= load[2];
  }

  int borne(List<int[]> edges) {
    int bits = 0;
    for (int k = 0; k < loads.size(); k++) if (isBorne(edges, k)) bits |= 1 << k;
    return bits;
  }

  int fallsIn(int k) {
    for (int n = 0; n <= 60; n++) if (!isBorne(edges(n), k)) return n;
    return -2;
  }

  private List<int[]> withOffers(int set) {
    List<int[]> all = edges(0);
    for (int k = 0; k < offers.size(); k++)
      if ((set >> k & 1) == 1) all.add(new int[] {offers.get(k)[0], offers.get(k)[1], offers.get(k)[2], 20 + k});
    return all;
  }

  int cost(int set) {
    int cost = 0;
    for (int k = 0; k < offers.size(); k++) if ((set >> k & 1) == 1) cost += offers.get(k)[3];
    return cost;
  }

  int mend() {
    int best = -2;
    for (int set = (1 << offers.size()) - 1; set >= 0; set--)
      if (borne(withOffers(set)) == (1 << loads.size()) - 1 && (best < 0 || cost(set) <= cost(best))) best = set;
    return best;
  }

  int bestOffer() {
    int best = -2;
    int most = Integer.bitCount(borne(edges(0)));
    for (int k = offers.size() - 1; k >= 0; k--) {
      int count = Integer.bitCount(borne(withOffers(1 << k)));
      if (count > Integer.bitCount(borne(edges(0))) && count >= most) {
        most = count;
        best = k;
      }
    }
    return best;
  }

  // ---- clashes

  int clashesIn(int held) {
    int number = 0;
    for (int[] c : clashes) if ((held >> c[0] & 1) == 1 && (held >> c[1] & 1) == 1) number++;
    return number;
  }

  int clashBits(int t) {
    int bits = 0;
    for (int[] c : clashes) {
      if (c[0] == t) bits |= 1 << c[1];
      if (c[1] == t) bits |= 1 << c[0];
    }
    return bits;
  }

  int leastBreak(boolean rued) {
    List<int[]> edges = edges(0);
    int held = bits(edges);
    int best = -1;
    for (int set = 255; set >= 0; set--) {
      if ((set & ~held) != 0 || clashesIn(held & ~set) > 0) continue;
      int loss = rued ? sum(edges, set) : Integer.bitCount(set);
      int bestLoss = best < 0 ? Integer.MAX_VALUE : rued ? sum(edges, best) : Integer.bitCount(best);
      if (loss <= bestLoss) best = set;
    }
    return best;
  }

  int peaces() {
    int held = bits(edges(0));
    int number = 0;
    for (int set = 0; set < 256; set++) if ((set & ~held) == 0 && clashesIn(set) == 0) number++;
    return number;
  }

  // ---- liars

  private boolean lied(int t, int set) {
    int k = unsure.indexOf(t);
    if (k >= 0) return (set >> k & 1) == 1;
    return t < toldThreads.size() && toldThreads.get(t).kind == 3;
  }

  private boolean brown(int t, int u, int set) {
    return lied(t, set) || lied(u, set);
  }

  BigInteger weight(int set) {
    BigInteger weight = BigInteger.ONE;
    for (int[] h : hairs) weight = weight.multiply(BigInteger.valueOf(brown(h[0], h[1], set) == (h[2] == 1) ? 100 - slips : slips));
    return weight;
  }

  List<Integer> fits() {
    List<Integer> all = new ArrayList<>();
    for (int set = 0; set < 1 << unsure.size(); set++) if (weight(set).signum() > 0) all.add(set);
    return all;
  }

  static long share(BigInteger part, BigInteger whole, boolean lower) {
    if (whole.signum() == 0 || part.signum() == 0) return lower ? 1 : 0;
    BigInteger g = part.gcd(whole);
    return (lower ? whole : part).divide(g).longValueExact();
  }

  long odds(int k, boolean lower) {
    return brownOdds(unsure.get(k), unsure.get(k), lower);
  }

  long brownOdds(int t, int u, boolean lower) {
    BigInteger part = BigInteger.ZERO;
    BigInteger whole = BigInteger.ZERO;
    for (int set : fits()) {
      whole = whole.add(weight(set));
      if (brown(t, u, set)) part = part.add(weight(set));
    }
    return share(part, whole, lower);
  }

  int likeliest() {
    int best = -2;
    for (int set : fits()) if (best < 0 || weight(set).compareTo(weight(best)) > 0) best = set;
    return best;
  }

  int leaves(int k) {
    int in = 0;
    int out = 0;
    for (int set : fits()) {
      if ((set >> k & 1) == 1) in++;
      else out++;
    }
    return Math.max(in, out);
  }

  int test() {
    if (fits().isEmpty()) return -2;
    int best = -2;
    for (int k = unsure.size() - 1; k >= 0; k--) if (best < 0 || leaves(k) <= leaves(best)) best = k;
    return best;
  }

  int judge() {
    for (int i = 0; i < hairs.size(); i++) {
      int[] h = hairs.get(i);
      boolean brown = toldThreads.get(h[0]).kind == 3 || toldThreads.get(h[1]).kind == 3;
      if (brown != (h[2] == 1)) return i;
    }
    return -2;
  }

  // ---- by turns, by chance

  /** Whether who is to snap wins. */
  boolean wins(List<int[]> left, int a, int b) {
    if (flow(left, a, b) == 0) return true;
    for (int[] e : left) if (!wins(without(left, 1 << e[3]), a, b)) return true;
    return false;
  }

  int snapsBy(int a, int b) {
    List<int[]> held = edges(0);
    if (flow(held, a, b) == 0) return -2;
    for (int[] e : held) if (!wins(without(held, 1 << e[3]), a, b)) return e[3];
    return -2;
  }

  /** Part of 100 to the power of the threads that HOLD: with much below 0 the mean. */
  private BigInteger chance(List<int[]> open, List<int[]> left, int a, int b, int much) {
    if (open.isEmpty()) {
      int f = flow(left, a, b);
      return BigInteger.valueOf(much < 0 ? f : f >= much ? 1 : 0);
    }
    List<int[]> rest = open.subList(1, open.size());
    BigInteger gone = chance(rest, left, a, b, much).multiply(BigInteger.valueOf(clerks));
    List<int[]> more = new ArrayList<>(left);
    more.add(open.get(0));
    return gone.add(chance(rest, more, a, b, much).multiply(BigInteger.valueOf(100 - clerks)));
  }

  long bearOdds(int a, int b, int much, boolean lower) {
    List<int[]> held = edges(0);
    return share(chance(held, new ArrayList<>(), a, b, much), BigInteger.valueOf(100).pow(held.size()), lower);
  }

  /** Threads that HOLD behind each year of clerks, the first behind none. */
  List<List<int[]>> clerkYears(int seed, int n) {
    List<List<int[]>> all = new ArrayList<>();
    all.add(edges(0));
    long s = seed;
    int gone = 0;
    for (int y = 1; y <= n; y++) {
      for (int[] e : without(edges(y), gone)) {
        s = (75 * s + 74) % 65537;
        if (s % 100 < clerks) gone |= 1 << e[3];
      }
      all.add(without(edges(y), gone));
    }
    return all;
  }

  int fallsBy(int k, int seed, int n) {
    List<List<int[]>> all = clerkYears(seed, n);
    for (int y = 1; y <= n; y++) if (!isBorne(all.get(y), k)) return y;
    return -2;
  }

  // ---- acts

  private void remember() {
    past.addLast(now.copy());
    if (past.size() > 16) past.removeFirst();
  }

  int year() {
    int before = bits(edges(0));
    remember();
    now.years++;
    for (Thread t : now.threads) t.age++;
    return before & ~bits(edges(0));
  }

  void snap(int t) {
    remember();
    now.threads.get(t).snapped = true;
  }

  int spin(int k) {
    remember();
    Thread t = new Thread();
    t.a = offers.get(k)[0];
    t.b = offers.get(k)[1];
    t.told = offers.get(k)[2];
    now.threads.add(t);
    return now.threads.size() - 1;
  }

  int darn(int t) {
    remember();
    now.threads.get(t).snapped = false;
    now.threads.get(t).age = 0;
    return now.threads.get(t).strength(0);
  }

  void undo() {
    now = past.removeLast();
  }

  void back(int image) {
    now = images.get(image).copy();
    past.clear();
  }
}
