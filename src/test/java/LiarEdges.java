/** Terms III, FITS, ODDS and TEST, and promises 31 to 38. */
final class LiarEdges {
  /** Threads k, l, m, n, o and y are kept, z is lied. */
  private static final String THREADS = " clerks 0;nail a;nail b;" + Edges.times(5, "thread # kept a b strong 1 step 0;")
      + "thread y kept a b strong 1 step 0;thread z lied a b strong 1 step 20;offer a b strong 1 costs 0";
  /** Threads z, y and x, in this order: the first of all is lied. */
  private static final String LIED_FIRST = "web slips 0 clerks 0;nail a;nail b;thread z lied a b strong 1 step 20;thread y kept a b strong 1 step 0;"
      + "thread x kept a b strong 1 step 0";
  private static final String FIVE = ";unsure k;unsure l;unsure m;unsure n;unsure o";
  private final Edges edges;

  LiarEdges(Edges edges) {
    this.edges = edges;
  }

  void all() {
    fitTerms();
    brownTerms();
    slipTerms();
    testTerms();
    fits();
    fitAt();
    odds();
    oddsInLowestTerms();
    likeliest();
    test();
    brown();
    brownOfOthers();
    judge();
  }

  private PromiseWeb web(int slips, String lines) {
    return edges.web("web slips " + slips + THREADS + lines);
  }

  private void fitTerms() {
    edges.terms("FITS: sets of unsure threads that are lied on (those that aren't in it aren't, of whatever KIND), by which all hairs can have been told so");
    edges.due("no hair: either", web(0, ";unsure k").fits(), 2);
    PromiseWeb lied = web(0, ";unsure z;hair z z clear");
    edges.due("z isn't lied on, though its KIND is", lied.fits(), 1);
    edges.due("the empty set", lied.fitAt(0), 0);
    PromiseWeb kept = web(0, ";unsure k;hair k k brown");
    edges.due("k is, though its KIND is kept", kept.fits(), 1);
    edges.due("the set of it", kept.fitAt(0), 1);
    edges.due("two hairs that can't both be", web(0, ";unsure k;hair k k brown;hair k k clear").fits(), 0);
    edges.due("two that can both be, one being wrong", web(1, ";unsure k;hair k k brown;hair k k clear").fits(), 2);
  }

  private void brownTerms() {
    edges.terms("a hair is brown if one of its two is lied on (others: as told, by KIND)");
    PromiseWeb x = web(0, ";unsure k;unsure l;hair k l brown");
    edges.due("one of two, or both", x.fits(), 3);
    edges.due("not neither", x.fitAt(0), 1);
    edges.due("clear: neither", web(0, ";unsure k;unsure l;hair k l clear").fits(), 1);
    edges.due("beside a kept one, brown", web(0, ";unsure k;hair k y brown").fitAt(0), 1);
    edges.due("beside a kept one, clear", web(0, ";unsure k;hair y k clear").fitAt(0), 0);
    edges.due("beside a lied one, brown: either", web(0, ";unsure k;hair k z brown").fits(), 2);
    edges.due("beside a lied one, clear: none", web(0, ";unsure k;hair z k clear").fits(), 0);
    edges.due("a kept one, brown: none", web(0, ";hair y y brown").fits(), 0);
    edges.due("a kept one, clear", web(0, ";hair y y clear").fits(), 1);
    edges.due("the first thread, lied, brown", edges.web(LIED_FIRST + ";unsure y;hair z x brown").fits(), 2);
    edges.due("the first thread, lied, clear: none", edges.web(LIED_FIRST + ";unsure y;hair z x clear").fits(), 0);
    edges.due("the first thread, lied, none being unsure", edges.web(LIED_FIRST + ";hair x z brown").fits(), 1);
    PromiseWeb spent = web(0, ";unsure k;hair k z clear");
    spent.snap(6);
    for (int i = 0; i < 20; i++) spent.year();
    edges.due("as told, whatever is NOW", spent.fits(), 0);
  }

  private void slipTerms() {
    edges.terms("it is told wrongly by slips, as likely as told; each set as likely ahead: ODDS by all.");
    int[][] rows = {{0, 1, 1}, {1, 99, 100}, {20, 4, 5}, {50, 1, 2}, {99, 1, 100}, {100, 0, 1}};
    for (int[] row : rows) {
      PromiseWeb x = web(row[0], ";unsure k;hair k k brown");
      edges.share("slips " + row[0] + ", brown", x.odds(0, false), x.odds(0, true), row[1], row[2]);
      PromiseWeb y = web(row[0], ";unsure k;hair k k clear");
      edges.share("slips " + row[0] + ", clear", y.odds(0, false), y.odds(0, true), row[2] - row[1], row[2]);
      edges.due("slips " + row[0] + ", FITS", x.fits(), row[0] % 100 == 0 ? 1 : 2);
    }
    PromiseWeb ahead = web(0, FIVE);
    for (int k = 0; k < 5; k++) edges.share("no hair, odds(" + k + ")", ahead.odds(k, false), ahead.odds(k, true), 1, 2);
    // 10 for neither, 90 for each of the other three sets
    PromiseWeb two = web(10, ";unsure k;unsure l;hair k l brown");
    edges.share("one of two", two.odds(0, false), two.odds(0, true), 9, 14);
  }

  private void testTerms() {
    edges.terms("TEST: the unsure thread by which, it being told, at most fewest FITS are left, the first such.");
    PromiseWeb either = web(0, ";unsure k;unsure l;hair k l brown");
    edges.due("either leaves two at most: the first", either.test(), 0);
    edges.due("two", either.testLeaves(), 2);
    PromiseWeb known = web(0, ";unsure k;unsure l;hair k k brown");
    edges.due("k is known: l", known.test(), 1);
    edges.due("one", known.testLeaves(), 1);
    PromiseWeb middle = web(0, ";unsure k;unsure l;unsure m;hair k l brown;hair k m brown");
    edges.due("five sets, four of them with k", middle.fits(), 5);
    edges.due("l or m leaves three at most: l", middle.test(), 1);
    edges.due("three", middle.testLeaves(), 3);
  }

  private void fits() {
    edges.promise(31, "FITS: how many");
    edges.answers("none unsure, no hair: the empty set", edges.web(TextEdges.WEB + "nail a"), PromiseWeb::fits, 1);
    edges.answers("none", web(0, FIVE + ";hair z k clear"), PromiseWeb::fits, 0);
    edges.answers("all of five", web(0, FIVE), PromiseWeb::fits, 32);
    edges.answers("all of five, whatever the hairs, by slips of 1", web(1, FIVE + ";hair z k clear;hair y y brown"), PromiseWeb::fits, 32);
    edges.answers("all of five, by slips of 99", web(99, FIVE + ";hair z k clear;hair y y brown"), PromiseWeb::fits, 32);
    edges.answers("by slips of 100, all being wrong", web(100, FIVE + ";hair z k clear;hair y y brown"), PromiseWeb::fits, 32);
    edges.answers("by slips of 100, one being right", web(100, FIVE + ";hair z k clear;hair y y clear"), PromiseWeb::fits, 0);
  }

  private void fitAt() {
    edges.promise(32, "The i-th, by bits of unsure threads as told");
    PromiseWeb all = web(0, FIVE);
    for (int i = 0; i < 32; i++) edges.refused("fitAt(" + i + ") of 32", all, all.fitAt(i), i, 0);
    edges.refused("fitAt(32) of 32", all, all.fitAt(32), -1, 1);
    PromiseWeb some = web(0, ";unsure m;unsure k;hair k k brown");
    edges.refused("k is the second unsure one", some, some.fitAt(0), 2, 0);
    edges.refused("and m", some, some.fitAt(1), 3, 0);
    edges.refused("the third of two", some, some.fitAt(2), -1, 1);
    edges.refused("the one before the first", some, some.fitAt(-1), -1, 1);
    PromiseWeb none = web(0, ";unsure k;hair y y brown");
    edges.refused("the first of none", none, none.fitAt(0), -1, 1);
    PromiseWeb least = edges.web(TextEdges.WEB + "nail a");
    edges.refused("the empty set", least, least.fitAt(0), 0, 0);
    edges.refused("the second of one", least, least.fitAt(1), -1, 1);
  }

  private void odds() {
    edges.promise(33, "How likely the k-th unsure thread is lied on, the upper WHOLE or the lower");
    PromiseWeb x = web(20, ";unsure o;unsure k;unsure z;hair k k brown;hair o o clear");
    edges.share("o, the first", x.odds(0, false), x.odds(0, true), 1, 5);
    edges.share("k, the second", x.odds(1, false), x.odds(1, true), 4, 5);
    edges.share("z, the third", x.odds(2, false), x.odds(2, true), 1, 2);
    edges.due("not refused", x.trouble(), 0);
    edges.refused("the fourth of three", x, x.odds(3, false), -1, 1);
    edges.refused("lower, the fourth of three", x, x.odds(3, true), -1, 1);
    PromiseWeb last = web(0, FIVE + ";hair o o brown");
    edges.share("the fifth", last.odds(4, false), last.odds(4, true), 1, 1);
    edges.refused("the sixth", last, last.odds(5, true), -1, 1);
  }

  private void oddsInLowestTerms() {
    edges.promise(33, "in lowest terms (0 by 1; also without FITS)");
    PromiseWeb never = web(0, ";unsure k;hair k k clear");
    edges.share("never", never.odds(0, false), never.odds(0, true), 0, 1);
    edges.due("not refused", never.trouble(), 0);
    PromiseWeb none = web(0, ";unsure k;unsure z;hair y y brown");
    edges.share("without FITS", none.odds(0, false), none.odds(0, true), 0, 1);
    edges.share("without FITS, by KIND lied", none.odds(1, false), none.odds(1, true), 0, 1);
    edges.due("not refused", none.trouble(), 0);
    String six = ";hair k k brown".repeat(6);
    PromiseWeb most = web(1, ";unsure k" + six);
    edges.share("six hairs, slips 1", most.odds(0, false), most.odds(0, true), 941480149401L, 941480149402L);
    PromiseWeb least = web(99, ";unsure k" + six);
    edges.share("six hairs, slips 99", least.odds(0, false), least.odds(0, true), 1, 941480149402L);
    PromiseWeb half = web(50, FIVE + six);
    edges.share("six hairs, slips 50", half.odds(4, false), half.odds(4, true), 1, 2);
  }

  private void likeliest() {
    edges.promise(34, "The likeliest set, the first such; -2 no FITS");
    edges.answers("two", web(10, ";unsure k;unsure l;hair k k brown;hair l l clear"), PromiseWeb::likeliest, 1);
    edges.answers("three as likely: the first", web(10, ";unsure k;unsure l;hair k l brown"), PromiseWeb::likeliest, 1);
    edges.answers("all as likely: the empty set", web(50, FIVE + ";hair k k brown"), PromiseWeb::likeliest, 0);
    edges.answers("slips 49", web(49, FIVE + ";hair o o brown"), PromiseWeb::likeliest, 16);
    edges.answers("slips 51", web(51, FIVE + ";hair o o brown"), PromiseWeb::likeliest, 0);
    edges.answers("all five", web(1, FIVE + ";hair k k brown;hair l l brown;hair m m brown;hair n n brown;hair o o brown"), PromiseWeb::likeliest, 31);
    edges.answers("none unsure", edges.web(TextEdges.WEB + "nail a"), PromiseWeb::likeliest, 0);
    edges.answers("no FITS", web(0, FIVE + ";hair y y brown"), PromiseWeb::likeliest, -2);
    edges.answers("none unsure, no FITS", web(0, ";hair y y brown"), PromiseWeb::likeliest, -2);
  }

  private void test() {
    edges.promise(35, "TEST (which unsure one); -2 no FITS, no unsure one");
    String known = ";unsure o;unsure l;hair o o brown";
    edges.answers("l, the second", web(0, known), PromiseWeb::test, 1);
    edges.answers("all fit", web(0, FIVE), PromiseWeb::test, 0);
    edges.answers("the fifth", web(0, FIVE + ";hair k k brown;hair l l brown;hair m m brown;hair n n clear"), PromiseWeb::test, 4);
    edges.answers("one FIT: the first", web(0, ";unsure k;unsure l;hair k l clear"), PromiseWeb::test, 0);
    edges.answers("no FITS", web(0, known + ";hair y y brown"), PromiseWeb::test, -2);
    edges.answers("no unsure one", web(0, ";hair y y clear"), PromiseWeb::test, -2);
    edges.answers("neither", web(0, ";hair y y brown"), PromiseWeb::test, -2);
    edges.promise(36, "How many are left at most then; -2 likewise");
    edges.answers("l, the second", web(0, known), PromiseWeb::testLeaves, 1);
    edges.answers("all fit", web(0, FIVE), PromiseWeb::testLeaves, 16);
    edges.answers("the fifth", web(0, FIVE + ";hair k k brown;hair l l brown;hair m m brown;hair n n clear"), PromiseWeb::testLeaves, 1);
    edges.answers("one FIT", web(0, ";unsure k;unsure l;hair k l clear"), PromiseWeb::testLeaves, 1);
    edges.answers("no FITS", web(0, known + ";hair y y brown"), PromiseWeb::testLeaves, -2);
    edges.answers("no unsure one", web(0, ";hair y y clear"), PromiseWeb::testLeaves, -2);
    edges.answers("neither", web(0, ";hair y y brown"), PromiseWeb::testLeaves, -2);
  }

  private void brown() {
    edges.promise(37, "How likely one of two threads (they may be alike) is lied on, by ODDS");
    // 10 for neither, 90 for each of the other three sets
    PromiseWeb x = web(10, ";unsure k;unsure l;hair k l brown");
    edges.share("k and l", x.brown(0, 1, false), x.brown(0, 1, true), 27, 28);
    edges.share("l and k", x.brown(1, 0, false), x.brown(1, 0, true), 27, 28);
    edges.share("k and k", x.brown(0, 0, false), x.brown(0, 0, true), 9, 14);
    edges.due("not refused", x.trouble(), 0);
    PromiseWeb sure = web(0, ";unsure k;unsure l;hair k l brown");
    edges.share("surely one", sure.brown(0, 1, false), sure.brown(0, 1, true), 1, 1);
    PromiseWeb never = web(0, ";unsure k;unsure l;hair k l clear");
    edges.share("surely none", never.brown(0, 1, false), never.brown(0, 1, true), 0, 1);
  }

  private void brownOfOthers() {
    edges.promise(37, "(of those that aren't unsure: by KIND), likewise (0 by 1 without FITS, whatever KIND)");
    PromiseWeb x = web(20, ";unsure k;hair k k brown");
    edges.share("kept ones", x.brown(1, 5, false), x.brown(1, 5, true), 0, 1);
    edges.share("one lied", x.brown(6, 6, false), x.brown(6, 6, true), 1, 1);
    edges.share("one lied beside an unsure one", x.brown(0, 6, false), x.brown(0, 6, true), 1, 1);
    edges.share("a kept one beside an unsure one", x.brown(5, 0, false), x.brown(5, 0, true), 4, 5);
    x.spin(0);
    edges.share("one spun", x.brown(7, 7, false), x.brown(7, 7, true), 0, 1);
    edges.share("one spun beside an unsure one", x.brown(7, 0, false), x.brown(7, 0, true), 4, 5);
    x.snap(6);
    edges.share("one lied, SNAPPED", x.brown(6, 1, false), x.brown(6, 1, true), 1, 1);
    PromiseWeb five = web(20, FIVE + ";hair k l brown");
    edges.share("one lied beside five unsure ones", five.brown(6, 6, false), five.brown(6, 6, true), 1, 1);
    edges.share("one kept beside five unsure ones", five.brown(5, 5, false), five.brown(5, 5, true), 0, 1);
    PromiseWeb sure = web(20, "");
    edges.share("no unsure one, no hair: one lied", sure.brown(6, 0, false), sure.brown(6, 0, true), 1, 1);
    edges.share("no unsure one, no hair: kept ones", sure.brown(5, 0, false), sure.brown(5, 0, true), 0, 1);
    PromiseWeb first = edges.web(LIED_FIRST + ";unsure y");
    edges.share("the first thread, lied", first.brown(0, 2, false), first.brown(0, 2, true), 1, 1);
    edges.share("the first thread, lied, beside an unsure one", first.brown(1, 0, false), first.brown(1, 0, true), 1, 1);
    PromiseWeb again = edges.web(TextEdges.NAILS + Edges.times(7, "thread # lied a b strong 1 step 20;") + "load a b 1");
    Check.tell(again, TextEdges.NAILS + "offer a b strong 1 costs 0");
    for (int t = 0; t < 8; t++) {
      again.spin(0);
      edges.share("one spun where another WEB's lied one was, " + t, again.brown(t, 0, false), again.brown(t, 0, true), 0, 1);
    }
    PromiseWeb unsure = web(0, ";unsure z");
    edges.share("of an unsure one not by KIND", unsure.brown(6, 6, false), unsure.brown(6, 6, true), 1, 2);
    PromiseWeb none = web(0, ";unsure k;hair y y brown");
    edges.share("without FITS, one lied", none.brown(6, 6, false), none.brown(6, 6, true), 0, 1);
    edges.share("without FITS, an unsure one", none.brown(0, 6, false), none.brown(0, 6, true), 0, 1);
    edges.due("not refused", none.trouble(), 0);
  }

  private void judge() {
    edges.promise(38, "The first hair, as told, that is told wrongly by threads as told (unsure ones, too, by KIND); -2");
    edges.answers("no hair", web(0, ""), PromiseWeb::judge, -2);
    String right = ";hair y y clear;hair z z brown;hair y z brown;hair z y brown;hair k l clear";
    edges.answers("none wrong", web(0, right), PromiseWeb::judge, -2);
    edges.answers("no hair, the first thread being lied", edges.web(LIED_FIRST), PromiseWeb::judge, -2);
    edges.answers("none wrong, the first thread being lied", edges.web(LIED_FIRST + ";hair z z brown;hair y x clear"), PromiseWeb::judge, -2);
    edges.answers("the sixth", web(0, right + ";hair y k brown"), PromiseWeb::judge, 5);
    edges.answers("the first", web(50, ";hair z y clear" + right), PromiseWeb::judge, 0);
    edges.answers("two: the first of them", web(100, ";hair y y clear;hair y y brown;hair z z clear"), PromiseWeb::judge, 1);
    edges.answers("an unsure one, kept", web(0, ";unsure k;hair k k brown"), PromiseWeb::judge, 0);
    edges.answers("an unsure one, lied", web(0, ";unsure z;hair z z clear"), PromiseWeb::judge, 0);
    edges.answers("an unsure one, as it is", web(0, ";unsure z;hair z z brown"), PromiseWeb::judge, -2);
    PromiseWeb later = web(0, ";hair z z brown");
    later.snap(6);
    edges.answers("as told, whatever is NOW", later, PromiseWeb::judge, -2);
  }
}
