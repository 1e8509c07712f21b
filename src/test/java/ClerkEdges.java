/** Terms III, CLERKS, and promises 44 to 47. */
final class ClerkEdges {
  private static final int LAST_SEED = 65536;
  private final Edges edges;

  ClerkEdges(Edges edges) {
    this.edges = edges;
  }

  void all() {
    chanceTerms();
    drawTerms();
    drawsOfThoseThatHold();
    bearOdds();
    much();
    mean();
    years();
    seeds();
    fallsBy();
    fallsByNone();
  }

  private PromiseWeb web(int clerks, String lines) {
    return edges.web("web slips 5 clerks " + clerks + ";nail a;nail b;nail c;" + lines);
  }

  private static String kept(String name, String ends, int strong) {
    return "thread " + name + " kept " + ends + " strong " + strong + " step 0;";
  }

  private PromiseWeb eight(int clerks) {
    PromiseWeb x = web(clerks, Edges.times(7, "thread # kept a b strong 99 step 0;") + "offer a b strong 99 costs 0");
    x.spin(0);
    return x;
  }

  private void odds(String call, PromiseWeb x, int b, int much, long upper, long lower) {
    edges.share(call, x.bearOdds(0, b, much, false), x.bearOdds(0, b, much, true), upper, lower);
    edges.due(call + ", not refused", x.trouble(), 0);
  }

  private void means(String call, PromiseWeb x, int b, long upper, long lower) {
    edges.share(call, x.mean(0, b, false), x.mean(0, b, true), upper, lower);
    edges.due(call + ", not refused", x.trouble(), 0);
  }

  private void chanceTerms() {
    edges.terms("CLERKS by chance: in a year each thread that HOLDS is SNAPPED, as likely as told, each for itself.");
    int[][] rows = {{0, 1, 1}, {1, 99, 100}, {25, 3, 4}, {50, 1, 2}, {99, 1, 100}, {100, 0, 1}};
    for (int[] row : rows) odds("clerks " + row[0], web(row[0], "thread k kept a b strong 5 step 0"), 1, 5, row[1], row[2]);
    String two = kept("k", "a b", 5) + "thread l kept b a strong 3 step 0";
    odds("both stay", web(25, two), 1, 8, 9, 16);
    odds("one stays", web(25, two), 1, 1, 15, 16);
    odds("both, in a row", web(25, kept("k", "a b", 5) + "thread l kept b c strong 3 step 0"), 2, 1, 9, 16);
    String between = "thread z lied a b strong 3 step 0;" + kept("k", "a b", 5) + "thread y lied a b strong 3 step 0;thread l kept b a strong 3 step 0";
    odds("two among others that don't HOLD, both", web(25, between), 1, 8, 9, 16);
    odds("two among others that don't HOLD, one", web(25, between), 1, 1, 15, 16);
    means("two among others that don't HOLD, the mean", web(25, between), 1, 6, 1);
    odds("one that doesn't HOLD", web(25, kept("k", "a b", 5) + "thread m lied a b strong 3 step 0"), 1, 1, 3, 4);
  }

  /** Draws by 0 end in 74, 24, 52, 90, 41. */
  private void drawTerms() {
    edges.terms("a DRAW mod 100: below clerks it is (SEED becomes (75 times SEED and 74) mod 65,537).");
    String one = "thread k kept a b strong 1 step 0";
    edges.due("74 isn't below 73", web(73, one).years(0, 1), 1);
    edges.due("74 isn't below 74", web(74, one).years(0, 1), 1);
    edges.due("74 is below 75", web(75, one).years(0, 1), 0);
    String three = kept("k", "a b", 1) + kept("l", "a b", 1) + "thread m kept a b strong 1 step 0";
    edges.due("24 isn't below 24", web(24, three).years(0, 1), 7);
    edges.due("24 is below 25", web(25, three).years(0, 1), 5);
    edges.due("52 isn't below 52", web(52, three).years(0, 1), 5);
    edges.due("52 is below 53", web(53, three).years(0, 1), 1);
    edges.due("all", web(75, three).years(0, 1), 0);
    edges.due("one drawn 36 by the last SEED", web(36, one).years(LAST_SEED, 60), 1);
    edges.due("36 is below 37", web(37, one).years(LAST_SEED, 1), 0);
    edges.due("one drawn 49 by 1", web(49, one).years(1, 1), 1);
    edges.due("49 is below 50", web(50, one).years(1, 1), 0);
    edges.due("none by clerks of 0, though 0 may be drawn", eight(0).years(12345, 60), 255);
    edges.due("all by clerks of 100", eight(100).years(12345, 1), 0);
  }

  private void drawsOfThoseThatHold() {
    edges.terms("By a SEED: each year, for each thread that HOLDS when the year is over, as strong as it is then, by numbers");
    String after = "thread k kept a b strong 1 step 0";
    edges.due("no draw for one faded then: 74 for k", web(74, "thread f fading a b strong 1 step 1;" + after).years(0, 1), 2);
    edges.due("no draw for one lied then", web(74, "thread f lied a b strong 1 step 1;" + after).years(0, 1), 2);
    edges.due("74 is below 75", web(75, "thread f lied a b strong 1 step 1;" + after).years(0, 1), 0);
    edges.due("a draw for one that HOLDS a year longer: 24 for k", web(25, "thread f lied a b strong 1 step 2;" + after).years(0, 1), 1);
    edges.due("24 isn't below 24", web(24, "thread f lied a b strong 1 step 2;" + after).years(0, 1), 3);
    String three = kept("k", "a b", 1) + kept("l", "a b", 1) + "thread m kept a b strong 1 step 0";
    edges.due("no draw for l, SNAPPED in the first year: 41 for m in the second", web(41, three).years(0, 2), 5);
    edges.due("41 is below 42", web(42, three).years(0, 2), 1);
    PromiseWeb x = web(24, three);
    x.snap(0);
    edges.due("no draw for one SNAPPED before: 74 for l, 24 for m", x.years(0, 1), 6);
    PromiseWeb y = web(25, three);
    y.snap(0);
    edges.due("24 is below 25", y.years(0, 1), 2);
  }

  private void bearOdds() {
    edges.promise(44, "How likely the web BEARS so much (0 .. 800) or more between two nails, as strong as NOW, behind one year's CLERKS, likewise");
    PromiseWeb x = web(25, kept("k", "a b", 5) + "thread l kept b a strong 3 step 0");
    int[][] rows = {{0, 1, 1}, {1, 15, 16}, {3, 15, 16}, {4, 3, 4}, {5, 3, 4}, {6, 9, 16}, {8, 9, 16}, {9, 0, 1}, {800, 0, 1}};
    for (int[] row : rows) odds("much " + row[0], x, 1, row[0], row[1], row[2]);
    odds("nothing between them", x, 2, 1, 0, 1);
    odds("nothing, or more", x, 2, 0, 1, 1);
    PromiseWeb fading = web(50, "thread f fading a b strong 5 step 5");
    odds("as strong as NOW", fading, 1, 5, 1, 2);
    fading.year();
    odds("as strong as NOW, which is 0", fading, 1, 1, 0, 1);
    odds("all eight, clerks 1", eight(1), 1, 792, 9227446944279201L, 10000000000000000L);
    odds("one more than all", eight(1), 1, 793, 0, 1);
    odds("all eight, clerks 99", eight(99), 1, 792, 1, 10000000000000000L);
    odds("one of eight, clerks 99", eight(99), 1, 1, 772553055720799L, 10000000000000000L);
  }

  private void much() {
    edges.promise(44, "so much (0 .. 800)");
    PromiseWeb x = web(50, "thread k kept a b strong 5 step 0");
    for (boolean lower : new boolean[] {false, true}) {
      edges.refused("much -1", x, x.bearOdds(0, 1, -1, lower), -1, 2);
      edges.refused("much 0", x, x.bearOdds(0, 1, 0, lower), 1, 0);
      edges.refused("much 800", x, x.bearOdds(0, 1, 800, lower), lower ? 1 : 0, 0);
      edges.refused("much 801", x, x.bearOdds(0, 1, 801, lower), -1, 2);
    }
    odds("much 0, though nothing can be BORNE", x, 2, 0, 1, 1);
    odds("much 1, as nothing can be BORNE", x, 2, 1, 0, 1);
    PromiseWeb none = web(50, "nail d");
    odds("much 0, no thread", none, 1, 0, 1, 1);
    odds("much 1, no thread", none, 1, 1, 0, 1);
  }

  private void mean() {
    edges.promise(45, "The mean of what it BEARS then, likewise");
    means("two side by side", web(25, kept("k", "a b", 5) + "thread l kept b a strong 3 step 0"), 1, 6, 1);
    means("two in a row", web(25, kept("k", "a b", 5) + "thread l kept b c strong 3 step 0"), 2, 27, 16);
    means("nothing between them", web(25, "thread k kept a b strong 5 step 0"), 2, 0, 1);
    means("clerks 0", eight(0), 1, 792, 1);
    means("clerks 1", eight(1), 1, 19602, 25);
    means("clerks 99", eight(99), 1, 198, 25);
    means("clerks 100", eight(100), 1, 0, 1);
    PromiseWeb fading = web(50, "thread f fading a b strong 5 step 5");
    means("as strong as NOW", fading, 1, 5, 2);
    fading.year();
    means("as strong as NOW, which is 0", fading, 1, 0, 1);
    means("no thread", web(50, "nail d"), 1, 0, 1);
  }

  private void years() {
    edges.promise(46, "Threads that HOLD behind n years of CLERKS");
    PromiseWeb x = web(25, kept("k", "a b", 1) + kept("l", "a b", 1) + "thread f fading a b strong 60 step 1");
    edges.refused("none of them", x, x.years(0, 0), 7, 0);
    edges.refused("one", x, x.years(0, 1), 5, 0);
    edges.due("no year went by", x.size(9), 0);
    edges.due("all HOLD NOW", x.holding(0), 7);
    PromiseWeb still = web(0, kept("k", "a b", 1) + "thread f fading a b strong 60 step 1");
    edges.refused("59 without clerks", still, still.years(0, 59), 3, 0);
    edges.refused("60 without clerks", still, still.years(0, 60), 1, 0);
    edges.refused("61", still, still.years(0, 61), -1, 2);
    edges.refused("-1", still, still.years(0, -1), -1, 2);
    edges.answers("no thread", web(100, "nail d"), w -> w.years(0, 60), 0);
    still.year();
    edges.due("58 from NOW on", still.years(0, 58), 3);
    edges.due("59 from NOW on", still.years(0, 59), 1);
  }

  private void seeds() {
    edges.promise(46, "by a SEED (0 .. 65,536), as bits");
    PromiseWeb x = web(50, "thread k kept a b strong 1 step 0");
    edges.refused("-1", x, x.years(-1, 1), -1, 2);
    edges.refused("0", x, x.years(0, 1), 1, 0);
    edges.refused("65,536", x, x.years(LAST_SEED, 1), 0, 0);
    edges.refused("65,537", x, x.years(LAST_SEED + 1, 1), -1, 2);
    edges.refused("65,537, no year", x, x.years(LAST_SEED + 1, 0), -1, 2);
    edges.due("the same SEED again, the same answer", x.years(LAST_SEED, 1), 0);
    edges.due("another one between", x.years(0, 1), 1);
  }

  private void fallsBy() {
    edges.promise(47, "Behind how many of them (1 .. n) a load isn't BORNE first");
    PromiseWeb x = web(25, "thread k kept a b strong 1 step 0;load a b 1");
    edges.refused("drawn 74, then 24: by two of 60", x, x.fallsBy(0, 0, 60), 2, 0);
    edges.refused("by two of two", x, x.fallsBy(0, 0, 2), 2, 0);
    edges.refused("not by one", x, x.fallsBy(0, 0, 1), -2, 0);
    PromiseWeb fading = web(0, "thread f fading a b strong 60 step 1;load a b 1;load a b 60;load a b 61");
    edges.refused("by 60 of 60", fading, fading.fallsBy(0, 5, 60), 60, 0);
    edges.refused("not by 59", fading, fading.fallsBy(0, 5, 59), -2, 0);
    edges.refused("by one", fading, fading.fallsBy(1, 5, 60), 1, 0);
    edges.refused("not BORNE NOW: by one", fading, fading.fallsBy(2, 5, 1), 1, 0);
    PromiseWeb last = web(37, "thread k kept a b strong 1 step 0;load a b 1");
    edges.refused("by one, by the last SEED", last, last.fallsBy(0, LAST_SEED, 60), 1, 0);
    edges.refused("a SEED more", last, last.fallsBy(0, LAST_SEED + 1, 60), -1, 2);
    edges.refused("a SEED less than 0", last, last.fallsBy(0, -1, 60), -1, 2);
    edges.refused("61", last, last.fallsBy(0, 0, 61), -1, 2);
    edges.refused("-1", last, last.fallsBy(0, 0, -1), -1, 2);
  }

  private void fallsByNone() {
    edges.promise(47, "; -2");
    PromiseWeb x = web(36, "thread k kept a b strong 1 step 0;load a b 1;load a c 1");
    edges.refused("never by the last SEED", x, x.fallsBy(0, LAST_SEED, 60), -2, 0);
    edges.refused("none of them", x, x.fallsBy(0, 0, 0), -2, 0);
    edges.refused("none of them, though it isn't BORNE NOW", x, x.fallsBy(1, 0, 0), -2, 0);
    PromiseWeb proving = web(0, "thread p proving a b strong 1 step 1;load a b 2;load a b 3");
    edges.refused("not BORNE NOW, but from a year on", proving, proving.fallsBy(0, 0, 60), -2, 0);
    edges.refused("not BORNE behind a year", proving, proving.fallsBy(1, 0, 60), 1, 0);
  }
}
