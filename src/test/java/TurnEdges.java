/** Terms III, SNAP by turns, REGISTRAR and CLERK, and promises 39 to 43. */
final class TurnEdges {
  private static final String NAILS = TextEdges.NAILS + "nail c;";
  private final Edges edges;

  TurnEdges(Edges edges) {
    this.edges = edges;
  }

  void all() {
    turnTerms();
    snaps();
    snapsBy();
    blowTerms();
    blows();
    restTerms();
    rests();
    rest();
  }

  private PromiseWeb sideBySide(int n) {
    PromiseWeb x = edges.web(NAILS + Edges.times(Math.min(n, 7), "thread # kept a b strong 9 step 0;") + "offer a b strong 9 costs 0");
    if (n == 8) x.spin(0);
    return x;
  }

  private void turnTerms() {
    edges.terms("SNAP by turns: two, the one first, each snaps a thread that HOLDS NOW (each is as strong as NOW till it is snapped)");
    edges.due("one that doesn't HOLD can't be snapped", edges.web(NAILS + "thread k kept a b strong 1 step 0;thread m lied a b strong 9 step 0").snaps(0, 1), 0);
    edges.due("one that HOLDS elsewhere can", edges.web(NAILS + "thread k kept a b strong 1 step 0;thread m kept a c strong 9 step 0").snaps(0, 1), 1);
    edges.due("one that fades in a year", edges.web(NAILS + "thread k fading a b strong 1 step 1").snaps(0, 1), 0);
    edges.due("the first of two of which it fades in a year",
        edges.web(NAILS + "thread k fading a b strong 1 step 1;thread l kept a b strong 1 step 0").snapsBy(0, 1), 0);
    edges.due("two that fade in a year", edges.web(NAILS + "thread k fading a b strong 1 step 1;thread l fading a b strong 1 step 1").snaps(0, 1), 1);
    edges.terms("by whose snapping there is nothing more that the web BEARS between two nails, that one has lost");
    edges.due("the last of one", sideBySide(1).snaps(0, 1), 0);
    edges.due("either of two in a row", edges.web(NAILS + "thread k kept a c strong 1 step 0;thread l kept c b strong 1 step 0").snaps(0, 1), 0);
    edges.due("the second of two", sideBySide(2).snaps(0, 1), 1);
    edges.terms("(who begins when it BEARS nothing has won).");
    edges.due("no thread", sideBySide(0).snaps(0, 1), 1);
    edges.due("none between them", sideBySide(3).snaps(0, 2), 1);
    edges.due("none that HOLDS", edges.web(NAILS + "thread m lied a b strong 9 step 0").snaps(0, 1), 1);
  }

  private void snaps() {
    edges.promise(39, "1 if who begins wins, both snapping best, else 0");
    for (int n = 0; n <= 8; n++) {
      PromiseWeb x = sideBySide(n);
      edges.refused(n + " side by side", x, x.snaps(0, 1), n % 2 == 0 ? 1 : 0, 0);
      edges.refused(n + " side by side, the other way", x, x.snaps(1, 0), n % 2 == 0 ? 1 : 0, 0);
    }
    PromiseWeb x = sideBySide(3);
    x.snap(1);
    edges.due("NOW two", x.snaps(0, 1), 1);
    edges.due("nothing is snapped by asking", x.holding(0), 5);
  }

  private void snapsBy() {
    edges.promise(40, "The first thread he snaps for that; -2 he doesn't win, or has won");
    for (int n = 0; n <= 8; n++) {
      PromiseWeb x = sideBySide(n);
      edges.refused(n + " side by side", x, x.snapsBy(0, 1), n % 2 == 0 && n > 0 ? 0 : -2, 0);
    }
    PromiseWeb x = sideBySide(3);
    x.snap(0);
    edges.due("the first that HOLDS", x.snapsBy(0, 1), 1);
    edges.due("not the one between, but the other", edges.web(NAILS + "thread k kept a b strong 1 step 0;thread l kept a c strong 1 step 0").snapsBy(0, 1), 1);
    edges.due("the first such", edges.web(NAILS + "thread k kept a c strong 1 step 0;thread l kept a b strong 1 step 0").snapsBy(0, 1), 0);
    edges.due("has won", x.snapsBy(0, 2), -2);
    edges.due("doesn't win", sideBySide(5).snapsBy(1, 0), -2);
  }

  private void blowTerms() {
    edges.terms("REGISTRAR and CLERK each blow or hold their breath: both blow: 1 less web each; one alone: he has 2, the other one -1; neither: 1 each.");
    PromiseWeb x = edges.web(TextEdges.WEB + "nail a");
    for (int web = 0; web <= 9; web++) {
      edges.refused("both, the registrar, " + web, x, x.blows(web, true, true, false), 1 - web, 0);
      edges.refused("both, the clerk, " + web, x, x.blows(web, true, true, true), 1 - web, 0);
      edges.due("the registrar alone, he", x.blows(web, true, false, false), 2);
      edges.due("the registrar alone, the clerk", x.blows(web, true, false, true), -1);
      edges.due("the clerk alone, the registrar", x.blows(web, false, true, false), -1);
      edges.due("the clerk alone, he", x.blows(web, false, true, true), 2);
      edges.due("neither, the registrar", x.blows(web, false, false, false), 1);
      edges.due("neither, the clerk", x.blows(web, false, false, true), 1);
    }
  }

  private void blows() {
    edges.promise(41, "What the registrar (or ofClerk, the clerk) has if each blows or doesn't, and web is so much (0 .. 9)");
    PromiseWeb x = edges.web(TextEdges.WEB + "nail a");
    edges.refused("web -1", x, x.blows(-1, true, true, false), -100, 2);
    edges.refused("web 0", x, x.blows(0, true, true, false), 1, 0);
    edges.refused("web 9", x, x.blows(9, true, true, false), -8, 0);
    edges.refused("web 10", x, x.blows(10, true, true, false), -100, 2);
    edges.refused("web 10, though it doesn't matter", x, x.blows(10, false, false, true), -100, 2);
  }

  private void restTerms() {
    edges.terms("REST: a pair by which neither could have more alone.");
    PromiseWeb x = edges.web(TextEdges.WEB + "nail a");
    edges.due("web 1: both blow, 0 rather than -1", x.rests(1), 1);
    edges.due("web 2: each of three, -1 either way", x.rests(2), 3);
    edges.due("web 3: one alone, -1 rather than -2", x.rests(3), 2);
  }

  private void rests() {
    edges.promise(42, "How many RESTS");
    PromiseWeb x = edges.web(TextEdges.WEB + "nail a");
    int[] rests = {1, 1, 3, 2, 2, 2, 2, 2, 2, 2};
    for (int web = 0; web <= 9; web++) edges.refused("rests(" + web + ")", x, x.rests(web), rests[web], 0);
    edges.refused("rests(-1)", x, x.rests(-1), -1, 2);
    edges.refused("rests(10)", x, x.rests(10), -1, 2);
  }

  private void rest() {
    edges.promise(43, "The first (holding their breath ahead, the registrar's first): 10 if the registrar blows, and 1 if the clerk does; -2");
    PromiseWeb x = edges.web(TextEdges.WEB + "nail a");
    int[] first = {11, 11, 1, 1, 1, 1, 1, 1, 1, 1};
    for (int web = 0; web <= 9; web++) edges.refused("rest(" + web + "), there is one each time", x, x.rest(web), first[web], 0);
    edges.refused("rest(-1)", x, x.rest(-1), -1, 2);
    edges.refused("rest(10)", x, x.rest(10), -1, 2);
  }
}
