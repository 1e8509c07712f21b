/** Terms II, STRENGTH and HOLDS, and promises 6 to 11. */
final class NowEdges {
  private static final String NAILS = TextEdges.NAILS;
  /** Seven threads: k kept, f faded in 60 years, g in 61, p proved in one, q in 60, l lied from 20 on, m from 0 on. */
  private static final String SEVEN = NAILS + "thread k kept a b strong 98 step 20;thread f fading a b strong 60 step 1;"
      + "thread g fading a b strong 61 step 1;thread p proving a b strong 98 step 1;thread q proving a b strong 39 step 1;"
      + "thread l lied a b strong 7 step 20;thread m lied a b strong 7 step 0";
  private final Edges edges;

  NowEdges(Edges edges) {
    this.edges = edges;
  }

  void all() {
    kept();
    fading();
    proving();
    lied();
    snapped();
    holds();
    since();
    yearsAsked();
    threadTold();
    threadNow();
    nail();
    strong();
    breaksIn();
    holding();
    strongest();
  }

  /** STRENGTH by years asked for, and by years gone by. */
  private void strengths(String kind, int strong, int step, int... want) {
    String text = NAILS + "thread t " + kind + " a b strong " + strong + " step " + step;
    PromiseWeb asked = edges.web(text);
    PromiseWeb lived = edges.web(text);
    for (int n = 0; n < want.length; n++) {
      edges.due(text + ", strong(0, " + n + ")", asked.strong(0, n), want[n]);
      edges.due(text + ", thread(0, 3) behind " + n + " years", lived.thread(0, 3), want[n]);
      edges.due(text + ", holding(" + n + ")", asked.holding(n), want[n] > 0 ? 1 : 0);
      lived.year();
    }
  }

  private void kept() {
    edges.terms("kept: as strong as told");
    strengths("kept", 1, 20, 1, 1, 1);
    strengths("kept", 99, 20, 99, 99, 99);
    PromiseWeb x = edges.web(SEVEN);
    edges.due("behind 60 years", x.strong(0, 60), 98);
  }

  private void fading() {
    edges.terms("fading: step less a year (0 at least)");
    strengths("fading", 3, 1, 3, 2, 1, 0, 0);
    strengths("fading", 5, 3, 5, 2, 0, 0);
    strengths("fading", 4, 2, 4, 2, 0, 0);
    strengths("fading", 1, 20, 1, 0, 0);
    strengths("fading", 20, 20, 20, 0);
    strengths("fading", 21, 20, 21, 1, 0);
    strengths("fading", 1, 0, 1, 1, 1);
    strengths("fading", 99, 20, 99, 79, 59, 39, 19, 0, 0);
    PromiseWeb x = edges.web(SEVEN);
    edges.due("behind 59 years", x.strong(1, 59), 1);
    edges.due("behind 60 years", x.strong(1, 60), 0);
    edges.due("one more strong, behind 60 years", x.strong(2, 60), 1);
    x.year();
    edges.due("behind 61 years", x.strong(1, 60), 0);
    edges.due("one more strong, behind 61 years", x.strong(2, 60), 0);
  }

  private void proving() {
    edges.terms("proving: step more a year (99 at most)");
    strengths("proving", 97, 1, 97, 98, 99, 99);
    strengths("proving", 96, 2, 96, 98, 99, 99);
    strengths("proving", 79, 20, 79, 99, 99);
    strengths("proving", 80, 20, 80, 99, 99);
    strengths("proving", 78, 20, 78, 98, 99);
    strengths("proving", 99, 20, 99, 99);
    strengths("proving", 1, 0, 1, 1, 1);
    PromiseWeb x = edges.web(SEVEN);
    edges.due("behind 59 years", x.strong(4, 59), 98);
    edges.due("behind 60 years", x.strong(4, 60), 99);
    x.year();
    edges.due("behind 61 years", x.strong(4, 60), 99);
  }

  private void lied() {
    edges.terms("lied: as told, but 0 from year step on.");
    strengths("lied", 9, 0, 0, 0);
    strengths("lied", 9, 1, 9, 0, 0);
    strengths("lied", 9, 2, 9, 9, 0, 0);
    PromiseWeb x = edges.web(SEVEN);
    edges.due("a year before", x.strong(5, 19), 7);
    edges.due("in that year", x.strong(5, 20), 0);
    edges.due("a year behind", x.strong(5, 21), 0);
    edges.due("behind 60 years", x.strong(5, 60), 0);
  }

  private void snapped() {
    edges.terms("One that is SNAPPED has 0.");
    PromiseWeb x = edges.web(SEVEN);
    for (int t = 0; t < 6; t++) {
      edges.due("STRENGTH before, above 0", x.thread(t, 3) > 0, true);
      edges.due("snap(" + t + ")", x.snap(t), true);
      edges.due("thread(" + t + ", 3)", x.thread(t, 3), 0);
      edges.due("strong(" + t + ", 0)", x.strong(t, 0), 0);
      edges.due("strong(" + t + ", 60)", x.strong(t, 60), 0);
    }
    x.year();
    edges.due("a year behind", x.holding(0), 0);
    edges.due("60 years behind", x.holding(60), 0);
  }

  private void holds() {
    edges.terms("A thread HOLDS while it is above 0.");
    PromiseWeb x = edges.web(SEVEN);
    edges.due("f of 1 HOLDS", x.holding(59), 31);
    edges.due("f of 0 doesn't, g of 1 does", x.holding(60), 29);
    PromiseWeb one = edges.web(NAILS + "thread t kept a b strong 1 step 0");
    edges.due("1", one.holding(0), 1);
    edges.due("snap() of 1", one.snap(0), true);
    edges.due("0", one.holding(0), 0);
  }

  private void since() {
    edges.terms("II. STRENGTH of a thread behind n years from when it was told (or spun, or mended) on:");
    PromiseWeb x = edges.web(NAILS + "thread f fading a b strong 9 step 2;thread p proving a b strong 9 step 2;thread l lied a b strong 9 step 2;"
        + "offer a b strong 9 costs 0");
    for (int i = 0; i < 3; i++) x.year();
    edges.due("three years from when f was told", x.thread(0, 3), 3);
    edges.due("p", x.thread(1, 3), 15);
    edges.due("l", x.thread(2, 3), 0);
    for (int t = 0; t < 3; t++) edges.due("darn(" + t + ")", x.darn(t), 9);
    edges.due("spin(0)", x.spin(0), 3);
    int[] behindOne = {7, 11, 9, 9};
    int[] behindTwo = {5, 13, 0, 9};
    for (int t = 0; t < 4; t++) {
      edges.due("strong(" + t + ", 0)", x.strong(t, 0), 9);
      edges.due("strong(" + t + ", 1)", x.strong(t, 1), behindOne[t]);
      edges.due("strong(" + t + ", 2)", x.strong(t, 2), behindTwo[t]);
    }
    x.year();
    for (int t = 0; t < 4; t++) edges.due("a year on, strong(" + t + ", 1)", x.strong(t, 1), behindTwo[t]);
  }

  private void yearsAsked() {
    edges.terms("III. Where n is asked: behind n more years (0 .. 60), nothing else being done.");
    PromiseWeb x = edges.web(SEVEN);
    edges.due("strong(1, 0)", x.strong(1, 0), 60);
    edges.due("strong(1, 60)", x.strong(1, 60), 0);
    edges.refused("strong(1, 61)", x, x.strong(1, 61), -1, 2);
    edges.refused("strong(1, -1)", x, x.strong(1, -1), -1, 2);
    edges.due("no year went by", x.size(9), 0);
    edges.due("nothing is to be undone", x.size(10), 0);
    x.year();
    edges.due("more years: strong(1, 0)", x.strong(1, 0), 59);
    edges.due("more years: strong(1, 59)", x.strong(1, 59), 0);
    edges.due("more years: strong(1, 58)", x.strong(1, 58), 1);
  }

  private void threadTold() {
    edges.promise(6, "Of a thread 0 KIND (0 kept, 1 fading, 2 proving, 3 lied), 1 the one nail, 2 the other one");
    PromiseWeb x = edges.web(TextEdges.WEB + Edges.times(7, "nail #;") + "thread a kept k q strong 1 step 0;thread b fading q k strong 1 step 0;"
        + "thread c proving l m strong 1 step 0;thread d lied p o strong 1 step 0;offer q p strong 5 costs 0");
    int[][] rows = {{0, 0, 6}, {1, 6, 0}, {2, 1, 2}, {3, 5, 4}};
    for (int t = 0; t < 4; t++)
      for (int what = 0; what < 3; what++) edges.due("thread(" + t + ", " + what + ")", x.thread(t, what), rows[t][what]);
    edges.due("spin(0)", x.spin(0), 4);
    int[] spun = {0, 6, 5, 5, 0, 0, 0};
    for (int what = 0; what < 7; what++) edges.due("of one spun, thread(4, " + what + ")", x.thread(4, what), spun[what]);
  }

  private void threadNow() {
    edges.promise(6, "3 STRENGTH NOW, 4 step, 5 1 if it is SNAPPED, 6 threads it clashes with, as bits");
    PromiseWeb x = edges.web(NAILS + Edges.times(7, "thread # fading a b strong 10 step 20;") + "clash k q;clash l k;clash q m");
    edges.due("STRENGTH NOW", x.thread(0, 3), 10);
    edges.due("step", x.thread(0, 4), 20);
    edges.due("not SNAPPED", x.thread(0, 5), 0);
    edges.due("k clashes with q and l", x.thread(0, 6), 66);
    edges.due("l clashes with k", x.thread(1, 6), 1);
    edges.due("m clashes with q", x.thread(2, 6), 64);
    edges.due("n clashes with none", x.thread(3, 6), 0);
    edges.due("q clashes with k and m", x.thread(6, 6), 5);
    x.snap(0);
    edges.due("SNAPPED", x.thread(0, 5), 1);
    edges.due("STRENGTH of it", x.thread(0, 3), 0);
    edges.due("step of it", x.thread(0, 4), 20);
    edges.due("clashes of it", x.thread(0, 6), 66);
    x.year();
    edges.due("faded isn't SNAPPED", x.thread(1, 5), 0);
    edges.due("faded", x.thread(1, 3), 0);
    edges.due("SNAPPED still", x.thread(0, 5), 1);
    x.darn(0);
    edges.due("darned isn't", x.thread(0, 5), 0);
    x.undo();
    edges.due("SNAPPED again", x.thread(0, 5), 1);
  }

  private void nail() {
    edges.promise(7, "Of a nail 0 threads at it that HOLD, as bits, 1 their STRENGTH together");
    PromiseWeb x = edges.web(NAILS + "nail c;nail d;" + Edges.times(5, "thread # kept a b strong 99 step 0;")
        + "thread y fading c a strong 1 step 1;thread z lied c b strong 9 step 0;offer b a strong 99 costs 0");
    edges.due("a", x.nail(0, 0), 63);
    edges.due("a, together", x.nail(0, 1), 496);
    edges.due("b", x.nail(1, 0), 31);
    edges.due("b, together", x.nail(1, 1), 495);
    edges.due("c, z doesn't HOLD", x.nail(2, 0), 32);
    edges.due("c, together", x.nail(2, 1), 1);
    edges.due("d has none", x.nail(3, 0), 0);
    edges.due("d, together", x.nail(3, 1), 0);
    x.spin(0);
    edges.due("a, one spun", x.nail(0, 0), 191);
    edges.due("a, together", x.nail(0, 1), 595);
    x.year();
    edges.due("c, y faded", x.nail(2, 0), 0);
    edges.due("c, together", x.nail(2, 1), 0);
    x.snap(0);
    edges.due("b, k SNAPPED", x.nail(1, 0), 158);
    edges.due("b, together", x.nail(1, 1), 495);
    PromiseWeb most = edges.web(NAILS + Edges.times(7, "thread # kept a b strong 99 step 0;") + "offer a b strong 99 costs 0");
    most.spin(0);
    edges.due("most", most.nail(0, 0), 255);
    edges.due("most together", most.nail(1, 1), 792);
  }

  private void strong() {
    edges.promise(8, "STRENGTH");
    PromiseWeb x = edges.web(SEVEN);
    int[] now = {98, 60, 61, 98, 39, 7, 0};
    int[] last = {98, 0, 1, 99, 99, 0, 0};
    for (int t = 0; t < 7; t++) {
      edges.refused("strong(" + t + ", 0)", x, x.strong(t, 0), now[t], 0);
      edges.refused("strong(" + t + ", 60)", x, x.strong(t, 60), last[t], 0);
    }
  }

  private void breaksIn() {
    edges.promise(9, "In how many years (0 .. 60) it HOLDS no more first; -2");
    PromiseWeb x = edges.web(SEVEN);
    int[] first = {-2, 60, -2, -2, -2, 20, 0};
    for (int t = 0; t < 7; t++) edges.refused("breaksIn(" + t + ")", x, x.breaksIn(t), first[t], 0);
    x.year();
    int[] then = {-2, 59, 60, -2, -2, 19, 0};
    for (int t = 0; t < 7; t++) edges.due("a year on, breaksIn(" + t + ")", x.breaksIn(t), then[t]);
    x.snap(0);
    edges.due("SNAPPED", x.breaksIn(0), 0);
    x.darn(0);
    edges.due("darned", x.breaksIn(0), -2);
    x.darn(2);
    edges.due("g darned", x.breaksIn(2), -2);
    PromiseWeb steps = edges.web(NAILS + "thread f fading a b strong 5 step 3;thread g fading a b strong 6 step 3;thread h fading a b strong 7 step 3;"
        + "thread i fading a b strong 1 step 0;thread j lied a b strong 1 step 1");
    int[] behind = {2, 2, 3, -2, 1};
    for (int t = 0; t < 5; t++) edges.due("by steps, breaksIn(" + t + ")", steps.breaksIn(t), behind[t]);
  }

  private void holding() {
    edges.promise(10, "Threads that HOLD, as bits");
    PromiseWeb x = edges.web(SEVEN);
    int[][] held = {{0, 63}, {19, 63}, {20, 31}, {59, 31}, {60, 29}};
    for (int[] row : held) edges.refused("holding(" + row[0] + ")", x, x.holding(row[0]), row[1], 0);
    x.snap(3);
    edges.due("p SNAPPED", x.holding(0), 55);
    edges.due("none told", edges.web(NAILS + "nail c").holding(60), 0);
    PromiseWeb eight = edges.web(NAILS + Edges.times(7, "thread # kept a b strong 1 step 0;") + "offer a b strong 1 costs 0");
    eight.spin(0);
    edges.due("eight", eight.holding(60), 255);
  }

  private void strongest() {
    edges.promise(11, "The strongest thread, the first such; -2 none HOLDS");
    PromiseWeb x = edges.web(SEVEN);
    edges.due("k and p, of 98", x.strongest(0), 0);
    edges.due("p, of 99", x.strongest(1), 3);
    edges.due("p, and q as strong", x.strongest(60), 3);
    x.snap(3);
    edges.due("q, p being SNAPPED", x.strongest(60), 4);
    edges.due("k, one more than q", x.strongest(58), 0);
    edges.due("k, as strong as q", x.strongest(59), 0);
    edges.answers("none told", edges.web(NAILS + "nail c"), w -> w.strongest(0), -2);
    PromiseWeb one = edges.web(NAILS + "thread m lied a b strong 9 step 0;thread f fading a b strong 1 step 1");
    edges.due("of 1", one.strongest(0), 1);
    edges.refused("none HOLDS", one, one.strongest(1), -2, 0);
    one.snap(1);
    edges.refused("none HOLDS NOW", one, one.strongest(0), -2, 0);
  }
}
