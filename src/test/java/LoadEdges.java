/** Terms III, BORNE, MEND and BREAK, and promises 20 to 30. */
final class LoadEdges {
  private static final String NAILS = TextEdges.NAILS;
  private static final String EIGHT = Edges.times(7, "thread # kept a b strong 99 step 0;");
  private final Edges edges;

  LoadEdges(Edges edges) {
    this.edges = edges;
  }

  void all() {
    borneTerms();
    borne();
    fallsIn();
    spare();
    mendTerms();
    mendLike();
    mend();
    mendCost();
    bestOffer();
    bestOfferNone();
    clashes();
    few();
    rued();
    breaking();
    peaces();
  }

  private void borneTerms() {
    edges.terms("A load is BORNE if the web BEARS as much between its nails.");
    PromiseWeb x = edges.web(NAILS + "thread k kept b a strong 5 step 0;load a b 4;load a b 5;load a b 6;load b a 5");
    edges.due("4 and 5 of 5, not 6, either way", x.borne(0), 11);
    String strong = NAILS + "thread k kept a b strong 99 step 0;thread l kept a b strong 99 step 0;thread m kept a b strong 99 step 0;";
    edges.due("300 of 300", edges.web(strong + "thread n kept a b strong 3 step 0;load a b 300").borne(0), 1);
    edges.due("300 of 299", edges.web(strong + "thread n kept a b strong 2 step 0;load a b 300").borne(0), 0);
    PromiseWeb each = edges.web(NAILS + "thread k kept a b strong 5 step 0;load a b 5;load a b 5");
    edges.due("each load for itself", each.borne(0), 3);
  }

  private void borne() {
    edges.promise(20, "Loads that are BORNE, as bits");
    edges.answers("no load", edges.web(NAILS + "thread k kept a b strong 5 step 0"), w -> w.borne(0), 0);
    PromiseWeb x = edges.web(NAILS + "nail c;thread f fading a b strong 60 step 1;load a b 1;load a b 2;load a c 1;load a b 60");
    edges.refused("NOW", x, x.borne(0), 11, 0);
    edges.due("in a year", x.borne(1), 3);
    edges.due("in 58 years", x.borne(58), 3);
    edges.due("in 59 years", x.borne(59), 1);
    edges.refused("in 60 years", x, x.borne(60), 0, 0);
    x.snap(0);
    edges.due("SNAPPED", x.borne(0), 0);
    edges.due("four", edges.web(NAILS + "thread k kept a b strong 9 step 0;load a b 1;load a b 2;load a b 3;load a b 4").borne(60), 15);
  }

  private void fallsIn() {
    edges.promise(21, "In how many years (0 .. 60) a load isn't BORNE first; -2");
    PromiseWeb x = edges.web(NAILS + "nail c;thread f fading a b strong 61 step 1;thread p proving a c strong 1 step 1;"
        + "load a b 62;load a b 2;load a b 1;load a c 2");
    edges.refused("NOW", x, x.fallsIn(0), 0, 0);
    edges.refused("in 60 years", x, x.fallsIn(1), 60, 0);
    edges.refused("in 61 years", x, x.fallsIn(2), -2, 0);
    edges.refused("NOW, though it will be BORNE", x, x.fallsIn(3), 0, 0);
    x.year();
    edges.due("a year on, in 59", x.fallsIn(1), 59);
    edges.due("a year on, in 60", x.fallsIn(2), 60);
    edges.due("a year on, BORNE from now on", x.fallsIn(3), -2);
    x.snap(1);
    edges.due("SNAPPED", x.fallsIn(3), 0);
    PromiseWeb one = edges.web(NAILS + "thread f fading a b strong 9 step 1;load a b 9;load a b 8");
    edges.due("in one", one.fallsIn(0), 1);
    edges.due("in two", one.fallsIn(1), 2);
  }

  private void spare() {
    edges.promise(22, "How much more than that the web BEARS for a load NOW (below 0, if it isn't BORNE)");
    PromiseWeb x = edges.web(NAILS + "nail c;thread k fading a b strong 5 step 5;load a b 4;load a b 5;load a b 6;load a c 300");
    int[] spare = {1, 0, -1, -300};
    for (int k = 0; k < 4; k++) edges.refused("spare(" + k + ")", x, x.spare(k), spare[k], 0);
    x.year();
    edges.due("a year on", x.spare(0), -4);
    PromiseWeb most = edges.web(NAILS + EIGHT + "offer a b strong 99 costs 0;load b a 1");
    most.spin(0);
    edges.due("most", most.spare(0), 791);
  }

  private void mendTerms() {
    edges.terms("MEND: the set of offers by which, all spun NOW (as kept threads, however many), all loads are BORNE: of least cost");
    String offers = "offer a b strong 5 costs 9;offer a b strong 3 costs 4;offer a b strong 2 costs 4;";
    edges.due("two of 8 rather than one of 9", edges.web(NAILS + offers + "load a b 5").mend(), 6);
    edges.due("one of 9, two being too weak", edges.web(NAILS + "offer a b strong 5 costs 9;offer a b strong 2 costs 4;offer a b strong 2 costs 4;load a b 5")
        .mend(), 1);
    edges.due("all three", edges.web(NAILS + offers + "load a b 10").mend(), 7);
    edges.due("all loads", edges.web(NAILS + "nail c;offer a b strong 1 costs 1;offer a c strong 1 costs 1;load a b 1;load b c 1").mend(), 3);
    edges.due("two in a row", edges.web(NAILS + "nail c;offer c b strong 1 costs 1;offer c a strong 1 costs 1;load a b 1").mend(), 3);
    edges.due("two in a row, told the other way", edges.web(NAILS + "nail c;offer b c strong 1 costs 1;offer a c strong 1 costs 1;load a b 1").mend(), 3);
    PromiseWeb spun = edges.web(NAILS + Edges.times(7, "thread # kept a b strong 1 step 0;") + Edges.times(5, "offer a b strong 1 costs 1;") + "load a b 12");
    edges.due("twelve threads in all", spun.mend(), 31);
    spun.spin(0);
    edges.due("with eight", spun.mend(), 15);
    PromiseWeb faded = edges.web(NAILS + "thread f fading a b strong 1 step 1;offer a b strong 1 costs 7;load a b 1");
    edges.due("NOW, whatever will be", faded.mend(), 0);
    faded.year();
    edges.due("a year on", faded.mend(), 1);
  }

  private void mendLike() {
    edges.terms("of least cost; of like ones the least bits.");
    edges.due("the first of two", edges.web(NAILS + "offer a b strong 1 costs 2;offer a b strong 1 costs 2;load a b 1").mend(), 1);
    edges.due("two of less bits rather than one", edges.web(NAILS + "offer a b strong 1 costs 1;offer a b strong 1 costs 1;offer a b strong 2 costs 2;load a b 2")
        .mend(), 3);
    edges.due("one of less bits rather than two", edges.web(NAILS + "offer a b strong 2 costs 2;offer a b strong 1 costs 1;offer a b strong 1 costs 1;load a b 2")
        .mend(), 1);
    edges.due("the second rather than the first and the third", edges.web(NAILS
        + "offer a b strong 1 costs 1;offer a b strong 2 costs 2;offer a b strong 1 costs 1;load a b 2").mend(), 2);
    edges.due("none that isn't needed, though it costs nothing", edges.web(NAILS + "offer a b strong 1 costs 0;offer a b strong 2 costs 3;load a b 2").mend(), 2);
    edges.due("one for nothing rather than a costly one", edges.web(NAILS + "offer a b strong 2 costs 1;offer a b strong 2 costs 0;load a b 2").mend(), 2);
  }

  private void mend() {
    edges.promise(23, "MEND, as bits of offers; -2 all aren't enough");
    edges.answers("no load, no offer", edges.web(TextEdges.WEB + "nail a"), PromiseWeb::mend, 0);
    edges.answers("no load", edges.web(NAILS + "offer a b strong 1 costs 0"), PromiseWeb::mend, 0);
    edges.answers("a load, no offer", edges.web(NAILS + "load a b 1"), PromiseWeb::mend, -2);
    edges.answers("BORNE already", edges.web(NAILS + "thread k kept a b strong 1 step 0;offer a b strong 1 costs 0;load a b 1"), PromiseWeb::mend, 0);
    String five = Edges.times(4, "offer a b strong 60 costs 99;") + "offer a b strong 59 costs 99;thread k kept a b strong #";
    edges.answers("just enough", edges.web(NAILS + five.replace("#", "1") + " step 0;load a b 300"), PromiseWeb::mend, 31);
    PromiseWeb x = edges.web(NAILS + five.replace("#", "1") + " step 0;load a b 300");
    x.snap(0);
    edges.refused("one too few", x, x.mend(), -2, 0);
    edges.refused("its cost", x, x.mendCost(), -2, 0);
    edges.answers("one of two loads", edges.web(NAILS + "nail c;offer a b strong 5 costs 0;load a b 1;load a c 1"), PromiseWeb::mend, -2);
  }

  private void mendCost() {
    edges.promise(24, "Its cost; -2");
    edges.answers("no load", edges.web(NAILS + "offer a b strong 1 costs 9"), PromiseWeb::mendCost, 0);
    edges.answers("for nothing", edges.web(NAILS + "offer a b strong 1 costs 0;load a b 1"), PromiseWeb::mendCost, 0);
    edges.answers("one", edges.web(NAILS + "offer a b strong 1 costs 99;load a b 1"), PromiseWeb::mendCost, 99);
    edges.answers("five of 99", edges.web(NAILS + Edges.times(5, "offer a b strong 60 costs 99;") + "load a b 300"), PromiseWeb::mendCost, 495);
    edges.answers("all aren't enough", edges.web(NAILS + Edges.times(4, "offer a b strong 60 costs 99;") + "offer a b strong 59 costs 1;load a b 300"),
        PromiseWeb::mendCost, -2);
    edges.answers("a load, no offer", edges.web(NAILS + "load a b 1"), PromiseWeb::mendCost, -2);
  }

  private void bestOffer() {
    edges.promise(25, "The offer by which, spun alone (however many threads there are), most loads are BORNE, the first such");
    String loads = "load a b 3;load a b 4;load a b 5;load a b 6";
    edges.answers("most", edges.web(NAILS + "offer a b strong 3 costs 0;offer a b strong 5 costs 9;offer a b strong 4 costs 0;" + loads), PromiseWeb::bestOffer, 1);
    edges.answers("of like ones the first", edges.web(NAILS + "offer a b strong 3 costs 0;offer a b strong 5 costs 9;offer a b strong 5 costs 0;" + loads),
        PromiseWeb::bestOffer, 1);
    edges.answers("each alone", edges.web(NAILS + "offer a b strong 2 costs 0;offer a b strong 2 costs 0;offer a b strong 3 costs 0;" + loads),
        PromiseWeb::bestOffer, 2);
    edges.answers("the fifth, of one load", edges.web(NAILS + Edges.times(4, "offer a b strong 1 costs 0;") + "offer a b strong 2 costs 0;load a b 2"),
        PromiseWeb::bestOffer, 4);
    edges.answers("not one between other nails", edges.web(NAILS + "nail c;offer c b strong 9 costs 0;offer a c strong 9 costs 0;offer b a strong 1 costs 0;load a b 1"),
        PromiseWeb::bestOffer, 2);
    edges.answers("by all four", edges.web(NAILS + "offer a b strong 5 costs 0;offer a b strong 6 costs 9;" + loads), PromiseWeb::bestOffer, 1);
    PromiseWeb x = edges.web(NAILS + Edges.times(7, "thread # kept a b strong 1 step 0;") + "offer a b strong 1 costs 0;offer a b strong 2 costs 0;"
        + "load a b 9;load a b 10");
    edges.refused("seven threads", x, x.bestOffer(), 1, 0);
    x.spin(0);
    edges.refused("eight threads", x, x.bestOffer(), 1, 0);
    edges.refused("which can't be spun", x, x.spin(1), -1, 3);
  }

  private void bestOfferNone() {
    edges.promise(25, "-2 by none more than NOW");
    edges.answers("no offer", edges.web(NAILS + "load a b 1"), PromiseWeb::bestOffer, -2);
    edges.answers("no load", edges.web(NAILS + "offer a b strong 1 costs 0"), PromiseWeb::bestOffer, -2);
    edges.answers("1 too weak", edges.web(NAILS + "offer a b strong 98 costs 0;load a b 99"), PromiseWeb::bestOffer, -2);
    edges.answers("just enough", edges.web(NAILS + "offer a b strong 99 costs 0;load a b 99"), PromiseWeb::bestOffer, 0);
    String all = NAILS + "thread k kept a b strong 5 step 0;offer a b strong 5 costs 0;load a b 5";
    edges.answers("all are BORNE NOW", edges.web(all), PromiseWeb::bestOffer, -2);
    edges.answers("one more than NOW", edges.web(all + ";load a b 10"), PromiseWeb::bestOffer, 0);
    edges.answers("as many as NOW", edges.web(all + ";load a b 11"), PromiseWeb::bestOffer, -2);
    String fading = NAILS + "thread f fading a b strong 5 step 1;offer a b strong 5 costs 0;load a b ";
    edges.answers("BORNE NOW, though in a year it isn't", edges.web(fading + "5"), PromiseWeb::bestOffer, -2);
    edges.answers("by one more than NOW, though not in a year", edges.web(fading + "10"), PromiseWeb::bestOffer, 0);
  }

  private void clashes() {
    edges.promise(26, "Clashes, how many, of which both HOLD");
    edges.answers("none told", edges.web(NAILS + "nail c"), w -> w.clashes(0), 0);
    PromiseWeb x = edges.web(NAILS + "thread f fading a b strong 60 step 1;thread g fading a b strong 61 step 1;thread k kept a b strong 1 step 0;"
        + "thread m lied a b strong 1 step 0;clash f g;clash g k;clash k m");
    edges.refused("NOW", x, x.clashes(0), 2, 0);
    edges.due("in 59 years", x.clashes(59), 2);
    edges.refused("in 60 years", x, x.clashes(60), 1, 0);
    x.snap(2);
    edges.due("one SNAPPED", x.clashes(0), 1);
    x.snap(0);
    edges.due("both others", x.clashes(0), 0);
    edges.due("as told", x.size(4), 3);
    edges.answers("eight", eightClashes(), w -> w.clashes(60), 8);
  }

  private PromiseWeb eightClashes() {
    return edges.web(NAILS + Edges.times(7, "thread # kept a b strong 99 step 0;")
        + "clash k l;clash k m;clash k n;clash k o;clash k p;clash k q;clash l m;clash p q");
  }

  private void few() {
    edges.terms("BREAK: sets of threads that HOLD NOW, without which no two that clash HOLD: FEW: the fewest, of like ones the least bits");
    String three = NAILS + "thread k kept a b strong 9 step 0;thread l kept a b strong 2 step 0;thread m kept a b strong 3 step 0;";
    edges.due("one rather than two", edges.web(three + "clash k l;clash k m").breakFew(), 1);
    edges.due("one in the middle", edges.web(three + "clash k l;clash l m").breakFew(), 2);
    edges.due("of like ones the least bits", edges.web(three + "clash l m").breakFew(), 2);
    edges.due("two of three, the least bits", edges.web(three + "clash l m;clash k l;clash m k").breakFew(), 3);
    String four = three + "thread n kept a b strong 1 step 0;";
    edges.due("two pairs", edges.web(four + "clash k n;clash l m").breakFew(), 3);
    edges.due("a row of four", edges.web(four + "clash k l;clash l m;clash m n").breakFew(), 5);
    PromiseWeb x = edges.web(three + "clash k l;clash k m");
    x.snap(0);
    edges.due("those that HOLD NOW", x.breakFew(), 0);
    edges.due("eight", eightClashes().breakFew(), 35);
  }

  private void rued() {
    edges.terms("RUED: of least STRENGTH together, of like ones the least bits.");
    String three = NAILS + "thread k kept a b strong # step 0;thread l kept a b strong 2 step 0;thread m kept a b strong 3 step 0;clash k l;clash k m";
    edges.due("k of 4, less than 5", edges.web(three.replace("#", "4")).breakRued(), 1);
    edges.due("k of 5, as much: the least bits", edges.web(three.replace("#", "5")).breakRued(), 1);
    edges.due("k of 6, more than 5", edges.web(three.replace("#", "6")).breakRued(), 6);
    String last = NAILS + "thread l kept a b strong 2 step 0;thread m kept a b strong 3 step 0;thread k kept a b strong # step 0;clash k l;clash k m";
    edges.due("k last, of 4", edges.web(last.replace("#", "4")).breakRued(), 4);
    edges.due("k last, of 5, as much: the least bits", edges.web(last.replace("#", "5")).breakRued(), 3);
    edges.due("k last, of 6", edges.web(last.replace("#", "6")).breakRued(), 3);
    PromiseWeb fading = edges.web(NAILS + "thread f fading a b strong 5 step 2;thread k kept a b strong 4 step 0;clash f k");
    edges.due("NOW", fading.breakRued(), 2);
    fading.year();
    edges.due("a year on", fading.breakRued(), 1);
  }

  private void breaking() {
    edges.promise(27, "FEW, as bits");
    PromiseWeb none = edges.web(TextEdges.WEB + "nail a");
    edges.answers("no thread", none, PromiseWeb::breakFew, 0);
    PromiseWeb two = edges.web(NAILS + "thread k kept a b strong 2 step 0;thread l fading a b strong 1 step 1;clash l k");
    edges.answers("two", two, PromiseWeb::breakFew, 1);
    edges.promise(28, "RUED, as bits");
    edges.answers("no thread", none, PromiseWeb::breakRued, 0);
    edges.answers("two", two, PromiseWeb::breakRued, 2);
    edges.promise(29, "Its STRENGTH together");
    edges.answers("no thread", none, PromiseWeb::rue, 0);
    edges.answers("two", two, PromiseWeb::rue, 1);
    PromiseWeb eight = eightClashes();
    edges.answers("three of 99", eight, PromiseWeb::rue, 297);
    two.year();
    edges.promise(27, "FEW, as bits");
    edges.answers("one faded", two, PromiseWeb::breakFew, 0);
    edges.promise(28, "RUED, as bits");
    edges.answers("one faded", two, PromiseWeb::breakRued, 0);
    edges.promise(29, "Its STRENGTH together");
    edges.answers("one faded", two, PromiseWeb::rue, 0);
  }

  private void peaces() {
    edges.promise(30, "How many sets of threads that HOLD NOW (none at all too) have no two that clash");
    edges.answers("no thread: none at all", edges.web(NAILS + "nail c"), PromiseWeb::peaces, 1);
    edges.answers("one", edges.web(NAILS + "thread k kept a b strong 1 step 0"), PromiseWeb::peaces, 2);
    PromiseWeb two = edges.web(NAILS + "thread k kept a b strong 1 step 0;thread l fading a b strong 1 step 1;clash k l");
    edges.answers("two that clash", two, PromiseWeb::peaces, 3);
    edges.answers("two that don't", edges.web(NAILS + "thread k kept a b strong 1 step 0;thread l kept a b strong 1 step 0"), PromiseWeb::peaces, 4);
    two.year();
    edges.answers("one faded", two, PromiseWeb::peaces, 2);
    two.snap(0);
    edges.answers("none HOLDS", two, PromiseWeb::peaces, 1);
    String between = "thread k kept a b strong 1 step 0;thread z lied a b strong 1 step 0;thread m kept a b strong 1 step 0";
    edges.answers("one between two doesn't HOLD", edges.web(NAILS + between), PromiseWeb::peaces, 4);
    edges.answers("and they clash", edges.web(NAILS + between + ";clash m k;clash k z"), PromiseWeb::peaces, 3);
    PromiseWeb all = edges.web(NAILS + Edges.times(7, "thread # kept a b strong 1 step 0;") + "offer a b strong 1 costs 0");
    edges.answers("seven", all, PromiseWeb::peaces, 128);
    all.spin(0);
    edges.answers("eight", all, PromiseWeb::peaces, 256);
    // k clashes with all others; without it: not l and m, not p and q: 3 times 3 times 4
    edges.answers("eight clashes", eightClashes(), PromiseWeb::peaces, 37);
  }
}
