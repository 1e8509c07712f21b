/** Terms II, BEARS and CUT, and promises 12 to 19. */
final class BearEdges {
  private static final String NAILS = TextEdges.NAILS;
  private static final String FOUR = NAILS + "nail c;nail d;";
  private static final String SEVEN_NAILS = TextEdges.WEB + "nail a;nail b;nail c;nail d;nail e;nail f;nail g";
  /** From a to g, each thread told the other way round than the one before it. */
  private static final String CHAIN = SEVEN_NAILS + ";thread k kept a b strong 9 step 0;thread l kept c b strong 8 step 0;"
      + "thread m kept c d strong 7 step 0;thread n kept e d strong 8 step 0;thread o kept e f strong 9 step 0;thread p kept g f strong 7 step 0";
  private final Edges edges;

  BearEdges(Edges edges) {
    this.edges = edges;
  }

  void all() {
    led();
    eitherWay();
    cutTerms();
    bears();
    cut();
    vital();
    vitalNone();
    needed();
    weakest();
    apart();
    parts();
    bridges();
  }

  private static String kept(String name, String ends, int strong) {
    return "thread " + name + " kept " + ends + " strong " + strong + " step 0;";
  }

  private static String joined(String text) {
    return text.endsWith(";") ? text.substring(0, text.length() - 1) : text;
  }

  private PromiseWeb web(String text) {
    return edges.web(joined(text));
  }

  private void led() {
    edges.terms("The web BEARS from one nail to another one as much as can be led there at once over threads, over each no more than its STRENGTH");
    edges.due("no thread", web(FOUR).bears(0, 1, 0), 0);
    edges.due("one", web(NAILS + kept("t", "a b", 1)).bears(0, 1, 0), 1);
    edges.due("two side by side", web(NAILS + kept("t", "a b", 4) + kept("u", "a b", 5)).bears(0, 1, 0), 9);
    edges.due("two in a row", web(FOUR + kept("t", "a b", 4) + kept("u", "b c", 5)).bears(0, 2, 0), 4);
    edges.due("one that leads elsewhere", web(FOUR + kept("t", "a b", 4) + kept("u", "a c", 5)).bears(0, 1, 0), 4);
    String square = kept("k", "a b", 3) + kept("l", "a c", 2) + kept("m", "b d", 2) + kept("n", "c d", 3);
    edges.due("a square", web(FOUR + square).bears(0, 3, 0), 4);
    edges.due("a square with a thread across", web(FOUR + square + kept("o", "b c", 1)).bears(0, 3, 0), 5);
    edges.due("a square with a stronger one across", web(FOUR + square + kept("o", "b c", 99)).bears(0, 3, 0), 5);
    String eight = NAILS + Edges.times(7, "thread # kept a b strong 99 step 0;") + "offer a b strong 99 costs 0";
    PromiseWeb most = web(eight);
    edges.due("seven of 99", most.bears(0, 1, 0), 693);
    most.spin(0);
    edges.due("eight of 99", most.bears(0, 1, 0), 792);
  }

  private void eitherWay() {
    edges.terms("either way.");
    PromiseWeb x = web(CHAIN);
    edges.due("all along", x.bears(0, 6, 0), 7);
    edges.due("and back", x.bears(6, 0, 0), 7);
    String square = kept("k", "b a", 3) + kept("l", "a c", 2) + kept("m", "b d", 2) + kept("n", "d c", 3) + kept("o", "c b", 1);
    PromiseWeb y = web(FOUR + square);
    edges.due("over the one across from b to c", y.bears(0, 3, 0), 5);
    edges.due("over the one across from c to b", y.bears(3, 0, 0), 5);
    edges.due("from b to c", y.bears(1, 2, 0), 5);
    edges.due("from c to b", y.bears(2, 1, 0), 5);
  }

  private void cutTerms() {
    edges.terms("A CUT: threads that HOLD, without which it BEARS nothing, of STRENGTH together as much as it BEARS");
    String near = FOUR + kept("k", "a b", 1) + kept("l", "a b", 1) + kept("m", "b c", 3) + "thread n lied b c strong 9 step 0;";
    PromiseWeb x = web(near);
    edges.due("k and l, not m alone, which is stronger", x.cut(0, 2, 0), 3);
    edges.due("m, n not HOLDING", x.cut(1, 2, 0), 4);
    edges.due("nothing is BORNE: no thread", x.cut(0, 3, 0), 0);
    PromiseWeb ends = web(FOUR + kept("k", "a b", 1) + kept("l", "b c", 2) + kept("m", "c d", 1));
    ends.snap(2);
    edges.due("at the one nail", ends.cut(0, 2, 0), 1);
    edges.due("at the other one", ends.cut(2, 0, 0), 1);
    PromiseWeb alone = web(TextEdges.NAILS + "nail c;" + kept("k", "c b", 5) + kept("l", "a c", 1));
    edges.due("at the one nail, no nail being free", alone.cut(0, 1, 0), 2);
    edges.due("at the other one, no nail being free", alone.cut(1, 0, 0), 2);
    edges.terms("the fewest such, of like ones the least bits.");
    edges.due("one rather than two of less bits", web(FOUR + kept("k", "a b", 1) + kept("l", "a b", 1) + kept("m", "b c", 2)).cut(0, 2, 0), 4);
    edges.due("two rather than three", web(FOUR + kept("k", "a b", 1) + kept("l", "a b", 1) + kept("m", "a b", 1) + kept("n", "b c", 1)
        + kept("o", "b c", 2)).cut(0, 2, 0), 24);
    edges.due("one of two in a row", web(FOUR + kept("k", "b c", 2) + kept("l", "a b", 2)).cut(0, 2, 0), 1);
    edges.due("the other way", web(FOUR + kept("k", "b c", 2) + kept("l", "a b", 2)).cut(2, 0, 0), 1);
    // a to b over c: m and n lead to c, k and l from there
    edges.due("two of as many", web(FOUR + kept("k", "c b", 2) + kept("m", "a c", 1) + kept("n", "a c", 3) + kept("l", "b c", 2)).cut(0, 1, 0), 6);
    edges.due("of like ones the least bits as a number", web(FOUR + kept("k", "c b", 1) + kept("m", "a c", 2) + kept("n", "a c", 2) + kept("l", "b c", 3))
        .cut(0, 1, 0), 6);
  }

  private void bears() {
    edges.promise(12, "How much the web BEARS");
    PromiseWeb x = web(FOUR + "thread f fading a b strong 60 step 1;thread g fading b c strong 61 step 1;thread l lied c d strong 5 step 20;");
    edges.refused("NOW", x, x.bears(0, 1, 0), 60, 0);
    edges.due("behind 59 years", x.bears(0, 1, 59), 1);
    edges.refused("behind 60 years", x, x.bears(0, 1, 60), 0, 0);
    edges.due("one more strong, behind 60 years", x.bears(1, 2, 60), 1);
    edges.due("a year before it is lied", x.bears(0, 3, 19), 5);
    edges.due("in that year", x.bears(0, 3, 20), 0);
    x.snap(0);
    edges.due("SNAPPED", x.bears(0, 1, 0), 0);
    PromiseWeb all = web(CHAIN);
    int[][] rows = {{0, 1, 9}, {0, 2, 8}, {0, 3, 7}, {3, 4, 8}, {4, 5, 9}, {5, 6, 7}, {1, 2, 8}, {3, 5, 8}};
    for (int[] row : rows) edges.due("of the chain, " + row[0] + " to " + row[1], all.bears(row[0], row[1], 0), row[2]);
  }

  private void cut() {
    edges.promise(13, "CUT, as bits");
    PromiseWeb x = web(CHAIN);
    edges.refused("a to g", x, x.cut(0, 6, 0), 4, 0);
    edges.due("g to a", x.cut(6, 0, 60), 4);
    edges.due("d to g", x.cut(3, 6, 0), 32);
    x.snap(5);
    edges.due("nothing is BORNE", x.cut(0, 6, 0), 0);
    PromiseWeb y = web(NAILS + "thread f fading a b strong 60 step 1;" + kept("k", "a b", 1));
    edges.due("behind 59 years", y.cut(0, 1, 59), 3);
    edges.due("behind 60 years", y.cut(0, 1, 60), 2);
    PromiseWeb eight = web(NAILS + Edges.times(7, "thread # kept a b strong 1 step 0;") + "offer a b strong 1 costs 0");
    eight.spin(0);
    edges.due("all eight", eight.cut(0, 1, 0), 255);
  }

  private void vital() {
    edges.promise(14, "The thread without which it BEARS least, the first such");
    PromiseWeb x = web(NAILS + kept("k", "a b", 3) + kept("l", "a b", 5) + kept("m", "a b", 4));
    edges.refused("l", x, x.vital(0, 1, 0), 1, 0);
    edges.due("of like ones the first", web(NAILS + kept("k", "a b", 3) + kept("l", "a b", 5) + kept("m", "a b", 5)).vital(0, 1, 0), 1);
    edges.due("in a row, each as much", web(CHAIN).vital(0, 6, 0), 0);
    edges.due("in a row, between others", web(CHAIN).vital(5, 6, 0), 5);
    edges.due("not the strongest", web(FOUR + kept("k", "a c", 99) + kept("l", "a b", 2) + kept("m", "a b", 1)).vital(0, 1, 0), 1);
    PromiseWeb y = web(NAILS + "thread f fading a b strong 60 step 1;" + kept("k", "b a", 1));
    edges.due("behind 59 years, of like ones", y.vital(0, 1, 59), 0);
    edges.due("behind 60 years", y.vital(0, 1, 60), 1);
  }

  private void vitalNone() {
    edges.promise(14, "-2 none HOLDS");
    edges.answers("none told", web(FOUR), w -> w.vital(0, 1, 0), -2);
    PromiseWeb x = web(FOUR + "thread m lied a b strong 9 step 0;thread f fading a b strong 60 step 1;");
    edges.due("one HOLDS", x.vital(0, 1, 59), 1);
    edges.due("none HOLDS", x.vital(0, 1, 60), -2);
    edges.due("one HOLDS, though nothing is BORNE from a to c", x.vital(0, 2, 59), 1);
    x.snap(1);
    edges.refused("none HOLDS NOW", x, x.vital(0, 1, 0), -2, 0);
  }

  private void needed() {
    edges.promise(15, "Threads without each of which, alone, it BEARS less, as bits");
    PromiseWeb x = web(CHAIN);
    edges.refused("all of a row", x, x.needed(0, 6, 0), 63, 0);
    edges.due("one of it", x.needed(2, 3, 0), 4);
    edges.due("side by side", web(NAILS + kept("k", "a b", 1) + kept("l", "a b", 9)).needed(0, 1, 0), 3);
    edges.due("not two of which one is enough", web(FOUR + kept("k", "a b", 1) + kept("l", "b c", 1) + kept("m", "b c", 1)).needed(0, 2, 0), 1);
    edges.due("two of which one is 1 less", web(FOUR + kept("k", "a b", 2) + kept("l", "b c", 1) + kept("m", "b c", 1)).needed(0, 2, 0), 7);
    edges.due("not those that lead elsewhere", web(FOUR + kept("k", "a b", 2) + kept("l", "a c", 1) + kept("m", "c d", 1)).needed(0, 1, 0), 1);
    edges.due("nothing is BORNE", web(FOUR + kept("k", "a b", 2)).needed(0, 2, 0), 0);
    edges.due("none told", web(FOUR).needed(0, 2, 0), 0);
    PromiseWeb y = web(NAILS + "thread f fading a b strong 60 step 1;" + kept("k", "b a", 1));
    edges.due("behind 59 years", y.needed(0, 1, 59), 3);
    edges.due("behind 60 years", y.needed(0, 1, 60), 2);
  }

  private void weakest() {
    edges.promise(16, "The two nails (10 times the lesser and the other one) between which it BEARS least, the first two; -2 there are no two");
    edges.answers("one nail", web(TextEdges.WEB + "nail a"), w -> w.weakest(0), -2);
    edges.due("two nails", web(NAILS).weakest(0), 1);
    edges.due("seven without threads: the first two", web(SEVEN_NAILS).weakest(60), 1);
    edges.due("a row: a and d, the first of those of 7", web(CHAIN).weakest(0), 3);
    PromiseWeb star = web(SEVEN_NAILS + ";" + kept("k", "a b", 3) + kept("l", "a c", 3) + kept("m", "a d", 3) + kept("n", "a e", 3) + kept("o", "a f", 3)
        + kept("p", "a g", 2));
    edges.due("the last nail", star.weakest(0), 6);
    star.snap(1);
    edges.due("c, by which nothing is BORNE", star.weakest(0), 2);
    star.snap(0);
    edges.due("b ahead of c", star.weakest(0), 1);
    // what parts two nails parts one of them from the first nail: the lesser of the first two is always 0
    PromiseWeb far = web(FOUR + kept("k", "a b", 9) + kept("l", "b c", 9) + kept("m", "c d", 1));
    edges.due("a and d, as little as c and d", far.weakest(0), 3);
    PromiseWeb y = web(NAILS + "nail c;thread f fading a b strong 60 step 1;" + kept("k", "a c", 1));
    edges.due("behind 58 years, f of 2", y.weakest(58), 2);
    edges.due("behind 59 years, as much", y.weakest(59), 1);
    edges.due("behind 60 years", y.weakest(60), 1);
  }

  private void apart() {
    edges.promise(17, "The fewest threads that HOLD, one behind the other, from nail to nail (0: itself); -2");
    PromiseWeb x = web(CHAIN);
    for (int b = 0; b < 7; b++) {
      edges.refused("a to " + b, x, x.apart(0, b, 0), b, 0);
      edges.due("back from " + b, x.apart(b, 0, 60), b);
      edges.due("itself, " + b, x.apart(b, b, 0), 0);
    }
    x.snap(3);
    edges.due("up to the one SNAPPED", x.apart(0, 3, 0), 3);
    edges.due("over the one SNAPPED", x.apart(0, 4, 0), -2);
    edges.due("itself behind it", x.apart(4, 4, 0), 0);
    edges.due("none told, itself", web(NAILS).apart(1, 1, 0), 0);
    edges.due("none told", web(NAILS).apart(0, 1, 0), -2);
    PromiseWeb y = web(FOUR + "thread f fading a d strong 60 step 1;" + kept("k", "a b", 1) + kept("l", "b c", 1) + kept("m", "c d", 1));
    edges.due("the short way", y.apart(0, 3, 59), 1);
    edges.due("the long way", y.apart(0, 3, 60), 3);
  }

  private void parts() {
    edges.promise(18, "In how many parts the nails are, by threads that HOLD");
    edges.answers("one nail", web(TextEdges.WEB + "nail a"), w -> w.parts(0), 1);
    edges.due("two", web(NAILS).parts(0), 2);
    edges.due("seven", web(SEVEN_NAILS).parts(60), 7);
    PromiseWeb x = web(CHAIN);
    edges.due("all joined", x.parts(60), 1);
    for (int t = 0; t < 6; t++) {
      x.snap(t);
      edges.due("without " + t + " and those before it", x.parts(0), t + 2);
    }
    edges.due("two parts, a nail of the one between those of the other", web(FOUR + kept("k", "a c", 1) + kept("l", "b d", 1)).parts(0), 2);
    edges.due("two nails alone between those of a part", web(FOUR + kept("k", "d a", 1)).parts(0), 3);
    edges.due("a nail alone behind a ring, told from its end", web(FOUR + kept("k", "d b", 1) + kept("l", "b a", 1) + kept("m", "a d", 1)).parts(0), 2);
    PromiseWeb y = web(NAILS + "thread f fading a b strong 60 step 1");
    edges.due("behind 59 years", y.parts(59), 1);
    edges.due("behind 60 years", y.parts(60), 2);
  }

  private void bridges() {
    edges.promise(19, "Threads that HOLD, without each of which, alone, there are more parts, as bits");
    PromiseWeb x = web(CHAIN);
    edges.refused("all of a row", x, x.bridges(0), 63, 0);
    edges.due("none told", web(SEVEN_NAILS).bridges(0), 0);
    edges.due("one nail", web(TextEdges.WEB + "nail a").bridges(0), 0);
    edges.due("none of two side by side", web(NAILS + kept("k", "a b", 1) + kept("l", "b a", 1)).bridges(0), 0);
    edges.due("none of a ring", web(FOUR + kept("k", "a b", 1) + kept("l", "b c", 1) + kept("m", "c a", 1)).bridges(0), 0);
    edges.due("one beside a ring", web(FOUR + kept("k", "a b", 1) + kept("l", "b c", 1) + kept("m", "c a", 1) + kept("n", "d a", 1)).bridges(0), 8);
    edges.due("two of two parts, told between each other", web(FOUR + kept("k", "a c", 1) + kept("l", "b d", 1)).bridges(0), 3);
    edges.due("one part's pair beside the other's bridge", web(FOUR + kept("k", "a c", 1) + kept("l", "b d", 1) + kept("m", "c a", 1)).bridges(0), 2);
    PromiseWeb y = web(NAILS + "thread f fading a b strong 60 step 1;" + kept("k", "b a", 1) + "thread m lied a b strong 9 step 0;");
    edges.due("behind 59 years", y.bridges(59), 0);
    edges.due("behind 60 years", y.bridges(60), 2);
    y.snap(1);
    edges.due("k SNAPPED", y.bridges(59), 1);
  }
}
