import java.util.List;
import java.util.Random;

/** Random webs and runs of calls against Model. */
public final class ModelTest {
  private static final Check check = new Check("ModelTest");
  private final Random random;
  private final PromiseWeb x = new PromiseWeb();
  private final Model m;
  private final String text;
  private int trouble;

  private ModelTest(Random random, String text) {
    this.random = random;
    this.text = text;
    Check.tell(x, text);
    m = Model.read(text);
  }

  private int number(int least, int most) {
    return least + random.nextInt(most - least + 1);
  }

  /** Mostly one that is there. */
  private int oneOf(int count) {
    return random.nextInt(12) == 0 ? number(-1, count + 1) : count == 0 ? 0 : random.nextInt(count);
  }

  private int someYears() {
    return random.nextInt(12) == 0 ? number(-1, 62) : random.nextBoolean() ? number(0, 5) : number(0, 60);
  }

  private void due(String call, long got, long want) {
    check.due(call + " of " + text, got, want);
    check.due("trouble() behind " + call, x.trouble(), trouble);
  }

  private boolean thread(int t) {
    return t >= 0 && t < m.now.threads.size();
  }

  private boolean nails(int a, int b) {
    return a >= 0 && b >= 0 && a < m.nails && b < m.nails && a != b;
  }

  private boolean set(boolean there, boolean number) {
    trouble = !there ? 1 : !number ? 2 : 0;
    return trouble == 0;
  }

  private void askWeb(int way) {
    int n = someYears();
    boolean ok = set(true, n >= 0 && n <= 60);
    List<int[]> e = ok ? m.edges(n) : null;
    switch (way) {
      case 0: due("holding " + n, x.holding(n), ok ? Model.bits(e) : -1); break;
      case 1: due("weakest " + n, x.weakest(n), ok ? m.weakest(n) : -1); break;
      case 2: due("parts " + n, x.parts(n), ok ? m.parts(e) : -1); break;
      case 3: due("bridges " + n, x.bridges(n), ok ? m.bridges(n) : -1); break;
      case 4: due("borne " + n, x.borne(n), ok ? m.borne(e) : -1); break;
      case 5: due("clashes " + n, x.clashes(n), ok ? m.clashesIn(Model.bits(e)) : -1); break;
      default:
        int best = -2;
        if (ok) for (int[] h : e) if (best < 0 || h[2] > m.now.threads.get(best).strength(n)) best = h[3];
        due("strongest " + n, x.strongest(n), ok ? best : -1);
    }
  }

  private void askNails(int way) {
    int a = oneOf(m.nails);
    int b = oneOf(m.nails);
    int n = someYears();
    boolean years = n >= 0 && n <= 60;
    boolean ok = set(nails(a, b), years);
    String of = a + " " + b + " " + n;
    switch (way) {
      case 0: due("bears " + of, x.bears(a, b, n), ok ? m.flow(m.edges(n), a, b) : -1); break;
      case 1: due("cut " + of, x.cut(a, b, n), ok ? m.cut(a, b, n) : -1); break;
      case 2: due("vital " + of, x.vital(a, b, n), ok ? m.vital(a, b, n) : -1); break;
      case 3: due("needed " + of, x.needed(a, b, n), ok ? m.needed(a, b, n) : -1); break;
      case 4:
        ok = set(a >= 0 && b >= 0 && a < m.nails && b < m.nails, years);
        due("apart " + of, x.apart(a, b, n), ok ? m.apart(a, b, n) : -1);
        break;
      case 5:
        ok = set(nails(a, b), true);
        due("snaps " + of, x.snaps(a, b), ok ? m.wins(m.edges(0), a, b) ? 1 : 0 : -1);
        due("snapsBy " + of, x.snapsBy(a, b), ok ? m.snapsBy(a, b) : -1);
        break;
      case 6:
        int much = random.nextInt(10) == 0 ? number(-1, 801) : number(0, random.nextBoolean() ? 10 : 200);
        boolean lower = random.nextBoolean();
        ok = set(nails(a, b), much >= 0 && much <= 800);
        due("bearOdds " + of + " " + much, x.bearOdds(a, b, much, lower), ok ? m.bearOdds(a, b, much, lower) : -1);
        break;
      case 7:
        ok = set(nails(a, b), true);
        due("mean upper " + of, x.mean(a, b, false), ok ? m.bearOdds(a, b, -1, false) : -1);
        due("mean lower " + of, x.mean(a, b, true), ok ? m.bearOdds(a, b, -1, true) : -1);
        break;
      default:
        int what = number(-1, 2);
        ok = set(a >= 0 && a < m.nails && what >= 0 && what < 2, true);
        int bits = 0;
        for (int[] e : m.edges(0)) if (e[0] == a || e[1] == a) bits |= 1 << e[3];
        due("nail " + a, x.nail(a, what), !ok ? -1 : what == 0 ? bits : Model.sum(m.edges(0), bits));
    }
  }

  private void askLoads(int way) {
    int k = oneOf(m.loads.size());
    int seed = random.nextInt(10) == 0 ? number(-1, 65537) : number(0, 200);
    int n = someYears();
    boolean load = k >= 0 && k < m.loads.size();
    boolean drawn = seed >= 0 && seed <= 65536 && n >= 0 && n <= 60;
    switch (way) {
      case 0: due("fallsIn " + k, x.fallsIn(k), set(load, true) ? m.fallsIn(k) : -1); break;
      case 1:
        boolean ok = set(load, true);
        due("spare " + k, x.spare(k), ok ? m.flow(m.edges(0), m.loads.get(k)[0], m.loads.get(k)[1]) - m.loads.get(k)[2] : -1000);
        break;
      case 2: due("fallsBy " + k + " " + seed + " " + n, x.fallsBy(k, seed, n), set(load, drawn) ? m.fallsBy(k, seed, n) : -1); break;
      default: due("years " + seed + " " + n, x.years(seed, n), set(true, drawn) ? Model.bits(m.clerkYears(seed, n).get(n)) : -1);
    }
  }

  private void askOffersAndClashes(int way) {
    set(true, true);
    switch (way) {
      case 0: due("mend", x.mend(), m.mend()); break;
      case 1: due("mendCost", x.mendCost(), m.mend() < 0 ? -2 : m.cost(m.mend())); break;
      case 2: due("bestOffer", x.bestOffer(), m.bestOffer()); break;
      case 3: due("breakFew", x.breakFew(), m.leastBreak(false)); break;
      case 4: due("breakRued", x.breakRued(), m.leastBreak(true)); break;
      case 5: due("rue", x.rue(), Model.sum(m.edges(0), m.leastBreak(true))); break;
      default: due("peaces", x.peaces(), m.peaces());
    }
  }

  private void askLiars(int way) {
    int k = oneOf(m.unsure.size());
    boolean lower = random.nextBoolean();
    set(true, true);
    switch (way) {
      case 0: due("fits", x.fits(), m.fits().size()); break;
      case 1:
        int i = oneOf(m.fits().size());
        boolean there = set(i >= 0 && i < m.fits().size(), true);
        due("fitAt " + i, x.fitAt(i), there ? m.fits().get(i) : -1);
        break;
      case 2: due("odds " + k, x.odds(k, lower), set(k >= 0 && k < m.unsure.size(), true) ? m.odds(k, lower) : -1); break;
      case 3: due("likeliest", x.likeliest(), m.likeliest()); break;
      case 4: due("test", x.test(), m.test()); break;
      case 5: due("testLeaves", x.testLeaves(), m.test() < 0 ? -2 : m.leaves(m.test())); break;
      case 6:
        int t = oneOf(m.now.threads.size());
        int u = oneOf(m.now.threads.size());
        due("brown " + t + " " + u, x.brown(t, u, lower), set(thread(t) && thread(u), true) ? m.brownOdds(t, u, lower) : -1);
        break;
      default: due("judge", x.judge(), m.judge());
    }
  }

  private void askThreads(int way) {
    int t = oneOf(m.now.threads.size());
    int n = someYears();
    switch (way) {
      case 0:
        int what = number(-1, 7);
        boolean ok = set(thread(t) && what >= 0 && what <= 6, true);
        due("thread " + t + " " + what, x.thread(t, what), ok ? threadOf(t, what) : -1);
        break;
      case 1:
        due("strong " + t + " " + n, x.strong(t, n), set(thread(t), n >= 0 && n <= 60) ? m.now.threads.get(t).strength(n) : -1);
        break;
      case 2:
        int breaks = -2;
        if (set(thread(t), true)) for (int y = 60; y >= 0; y--) if (m.now.threads.get(t).strength(y) == 0) breaks = y;
        due("breaksIn " + t, x.breaksIn(t), trouble == 0 ? breaks : -1);
        break;
      default:
        int i = oneOf(3);
        int left = i;
        int led = -2;
        for (int h = 0; h < m.now.threads.size(); h++) if (m.now.threads.get(h).strength(0) == 0 && left-- == 0) led = h;
        due("led " + i, Check.led(x, i), led);
    }
  }

  private int threadOf(int t, int what) {
    Model.Thread h = m.now.threads.get(t);
    int[] row = {h.kind, h.a, h.b, h.strength(0), h.step, h.snapped ? 1 : 0, m.clashBits(t)};
    return row[what];
  }

  private void act(int way) {
    int t = oneOf(m.now.threads.size());
    int k = oneOf(m.offers.size());
    trouble = 0;
    switch (way) {
      case 0:
      case 1: due("year", x.year(), m.year()); break;
      case 2:
        trouble = !thread(t) ? 1 : m.now.threads.get(t).strength(0) == 0 ? 5 : 0;
        due("snap " + t, x.snap(t) ? 1 : 0, trouble == 0 ? 1 : 0);
        if (trouble == 0) m.snap(t);
        break;
      case 3:
        trouble = k < 0 || k >= m.offers.size() ? 1 : m.now.threads.size() == 8 ? 3 : 0;
        due("spin " + k, x.spin(k), trouble == 0 ? m.spin(k) : -1);
        break;
      case 4:
      case 5:
        trouble = !thread(t) ? 1 : !m.now.threads.get(t).snapped && m.now.threads.get(t).age == 0 ? 5 : 0;
        due("darn " + t, x.darn(t), trouble == 0 ? m.darn(t) : -1);
        break;
      case 6:
        trouble = m.past.isEmpty() ? 6 : 0;
        due("undo", x.undo() ? 1 : 0, trouble == 0 ? 1 : 0);
        if (trouble == 0) m.undo();
        break;
      case 7:
        if (random.nextInt(5) != 0) break;
        trouble = m.images.size() == 3 ? 3 : 0;
        due("image", x.image(), trouble == 0 ? m.images.size() : -1);
        if (trouble == 0) m.images.add(m.now.copy());
        break;
      default:
        if (random.nextInt(4) != 0) break;
        int image = number(-1, 3);
        trouble = image < 0 || image >= m.images.size() ? 1 : 0;
        due("back " + image, x.back(image) ? 1 : 0, trouble == 0 ? 1 : 0);
        if (trouble == 0) m.back(image);
    }
  }

  private void sizes() {
    int[] sizes = {m.slips, m.clerks, m.nails, m.now.threads.size(), m.clashes.size(), m.loads.size(), m.offers.size(), m.unsure.size(),
        m.hairs.size(), m.now.years, m.past.size(), m.images.size(), 0};
    for (int what = 0; what < sizes.length; what++) check.due("size " + what, x.size(what), sizes[what]);
  }

  private void step() {
    switch (random.nextInt(9)) {
      case 0: askWeb(random.nextInt(7)); break;
      case 1: askNails(random.nextInt(9)); break;
      case 2: askLoads(random.nextInt(4)); break;
      case 3: askOffersAndClashes(random.nextInt(7)); break;
      case 4: askLiars(random.nextInt(8)); break;
      case 5: askThreads(random.nextInt(3)); break;
      default: act(random.nextInt(9));
    }
  }

  public static void main(String[] args) {
    Random random = new Random(args.length > 0 ? Long.parseLong(args[0]) : 11);
    Texts texts = new Texts(random);
    int webs = 0;
    for (int i = 0; i < 10000; i++) {
      String text = texts.web();
      if (text.length() > 900 || Model.read(text).fault != 0) continue;
      webs++;
      ModelTest run = new ModelTest(random, text);
      for (int call = 0; call < 60; call++) run.step();
      run.sizes();
      run.trouble = run.x.trouble();
      run.askThreads(3);
    }
    check.due("enough webs", webs > 8000, true);
    check.finish();
  }
}
