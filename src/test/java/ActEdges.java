import java.util.NoSuchElementException;

/** Terms III, ACTS, UNDO and IMAGES, Terms IV, promises 48 to 57, and how long an object is used. */
final class ActEdges {
  private static final String NAILS = TextEdges.NAILS;
  private static final String LEAST = TextEdges.WEB + "nail a";
  private static final String SPUN = NAILS + "offer a b strong 5 costs 0;offer b a strong 9 costs 0;";
  private final Edges edges;

  ActEdges(Edges edges) {
    this.edges = edges;
  }

  void all() {
    spinTerms();
    darnTerms();
    undoTerms();
    undoEach();
    imageTerms();
    year();
    yearsGone();
    snap();
    spin();
    darn();
    darnRefused();
    undo();
    image();
    back();
    led();
    size();
    sizeChanging();
    troubleTerms();
    trouble();
    constants();
    calls();
  }

  private void spinTerms() {
    edges.terms("ACTS: YEAR, SNAP, SPIN an offer (a kept thread more, of one offer again, too; up to 8 in all)");
    PromiseWeb x = edges.web(SPUN + Edges.times(5, "thread # kept a b strong 1 step 0;") + "load a b 1");
    edges.due("the sixth", x.spin(1), 5);
    edges.due("the seventh, of the same offer", x.spin(1), 6);
    edges.due("the eighth", x.spin(0), 7);
    edges.refused("the ninth", x, x.spin(0), -1, 3);
    edges.due("kept", x.thread(6, 0), 0);
    edges.due("as strong in 60 years", x.strong(6, 60), 9);
    edges.due("threads", x.size(3), 8);
    edges.due("it BEARS by them", x.bears(0, 1, 0), 28);
    PromiseWeb none = edges.web(SPUN + "load a b 1");
    for (int t = 0; t < 8; t++) edges.due("of none told, the one of number " + t, none.spin(0), t);
    edges.refused("the ninth", none, none.spin(1), -1, 3);
    PromiseWeb again = edges.web(SPUN + Edges.times(7, "thread # fading b a strong 50 step 20;") + "load a b 1");
    Check.tell(again, SPUN + "load a b 1");
    again.year();
    for (int t = 0; t < 7; t++) edges.due("where another WEB's faded thread was, " + t, again.strong(again.spin(1), 60), 9);
    int[] row = {0, 1, 0, 9, 0, 0, 0};
    for (int what = 0; what < 7; what++) edges.due("thread(6, " + what + ")", again.thread(6, what), row[what]);
  }

  private void darnTerms() {
    edges.terms("DARN a thread (as told, from NOW on).");
    PromiseWeb x = edges.web(NAILS + "thread f fading a b strong 9 step 4;thread p proving a b strong 9 step 4;thread l lied a b strong 9 step 2;"
        + "thread k kept a b strong 9 step 4");
    x.year();
    x.year();
    x.snap(3);
    int[] now = {1, 17, 0, 0};
    int[] next = {5, 13, 9, 9};
    for (int t = 0; t < 4; t++) {
      edges.due("before", x.strong(t, 0), now[t]);
      edges.due("darn(" + t + ")", x.darn(t), 9);
      edges.due("not SNAPPED", x.thread(t, 5), 0);
      edges.due("as told", x.strong(t, 0), 9);
      edges.due("from NOW on", x.strong(t, 1), next[t]);
    }
    edges.due("lied again from two years on", x.strong(2, 2), 0);
    edges.due("the years gone by stay", x.size(9), 2);
  }

  private void undoTerms() {
    edges.terms("UNDO: the latest (16 are kept).");
    for (int acts = 0; acts <= 40; acts++) {
      PromiseWeb x = edges.web(LEAST);
      for (int i = 0; i < acts; i++) x.year();
      int kept = Math.min(acts, 16);
      edges.due("kept of " + acts, x.size(10), kept);
      for (int i = 1; i <= kept; i++) {
        edges.due("undo() " + i + " of " + acts, x.undo(), true);
        edges.due("years then", x.size(9), acts - i);
        edges.due("left then", x.size(10), kept - i);
      }
      edges.refused("one more than are kept of " + acts, x, x.undo(), false, 6);
      edges.due("years stay", x.size(9), acts - kept);
    }
  }

  private void undoEach() {
    edges.terms("UNDO: the latest");
    String text = SPUN + "thread f fading a b strong 9 step 4;thread k kept a b strong 3 step 0";
    PromiseWeb x = edges.web(text);
    String[] before = new String[6];
    for (int act = 0; act < 6; act++) {
      before[act] = sight(x);
      if (act == 0) x.year();
      if (act == 1) x.snap(1);
      if (act == 2) x.spin(0);
      if (act == 3) x.darn(1);
      if (act == 4) x.year();
      if (act == 5) x.darn(0);
    }
    for (int act = 5; act >= 0; act--) {
      edges.due("undo() of " + act, x.undo(), true);
      edges.same("all is as before " + act, sight(x), before[act]);
      edges.due("ACTS before " + act, x.size(10), act);
    }
    x.spin(1);
    edges.due("another one in its place", x.thread(2, 3), 9);
    edges.due("undo() of it", x.undo(), true);
    edges.refused("no more", x, x.undo(), false, 6);
  }

  /** What ACTS change, but for how many of them there are. */
  private static String sight(PromiseWeb x) {
    StringBuilder all = new StringBuilder();
    for (int what = 3; what <= 9; what++) all.append(x.size(what)).append(' ');
    for (int t = 0; t < x.size(3); t++) all.append(x.strong(t, 0)).append(',').append(x.strong(t, 1)).append(',').append(x.thread(t, 5)).append(' ');
    return all.toString();
  }

  private void imageTerms() {
    edges.terms("IMAGES: up to 3; gone back to one, nothing can be undone.");
    PromiseWeb x = edges.web(LEAST);
    for (int i = 0; i < 3; i++) {
      edges.due("image() " + i, x.image(), i);
      x.year();
    }
    edges.refused("one more", x, x.image(), -1, 3);
    edges.due("ACTS before", x.size(10), 3);
    edges.refused("back(1)", x, x.back(1), true, 0);
    edges.due("ACTS then", x.size(10), 0);
    edges.refused("undo() then", x, x.undo(), false, 6);
    edges.due("years then", x.size(9), 1);
    x.year();
    edges.due("ACTS from there on", x.size(10), 1);
    edges.refused("undo() of it", x, x.undo(), true, 0);
    edges.refused("but no more", x, x.undo(), false, 6);
  }

  private void year() {
    edges.promise(48, "YEAR: threads that HOLD no more by it, as bits");
    PromiseWeb x = edges.web(NAILS + "thread f fading a b strong 1 step 1;thread g fading a b strong 2 step 1;thread l lied a b strong 9 step 1;"
        + "thread m lied a b strong 9 step 0;thread k kept a b strong 1 step 1;thread p proving a b strong 1 step 1;thread h fading a b strong 1 step 1");
    x.snap(6);
    edges.refused("f and l; m didn't HOLD, h was SNAPPED", x, x.year(), 5, 0);
    edges.refused("g", x, x.year(), 2, 0);
    edges.refused("none", x, x.year(), 0, 0);
    edges.due("what HOLDS", x.holding(0), 48);
    edges.answers("no thread", edges.web(LEAST), PromiseWeb::year, 0);
    PromiseWeb all = edges.web(NAILS + Edges.times(7, "thread # lied a b strong 9 step 1;") + "load a b 1");
    edges.refused("all seven", all, all.year(), 127, 0);
  }

  /** 999 years are more than the 512 calls for which anything is promised; the class keeps to the sentence all the same. */
  private void yearsGone() {
    edges.promise(48, "3 (999 went by)");
    PromiseWeb x = edges.web(NAILS + "thread f fading a b strong 99 step 20;thread p proving a b strong 1 step 20");
    for (int i = 1; i <= 998; i++) x.year();
    edges.due("998", x.size(9), 998);
    edges.refused("the 999th", x, x.year(), 0, 0);
    for (int i = 0; i < 2; i++) edges.refused("one more", x, x.year(), -1, 3);
    edges.due("999", x.size(9), 999);
    edges.due("ACTS stay", x.size(10), 16);
    edges.due("faded", x.strong(0, 60), 0);
    edges.due("proved", x.strong(1, 60), 99);
    x.undo();
    edges.refused("behind undo()", x, x.year(), 0, 0);
  }

  private void snap() {
    edges.promise(49, "SNAP: true; false: 1; 5 (it doesn't HOLD NOW)");
    PromiseWeb x = edges.web(NAILS + "thread f fading a b strong 2 step 1;thread m lied a b strong 9 step 0;thread k kept a b strong 1 step 0");
    edges.refused("one that lied from the first year on", x, x.snap(1), false, 5);
    edges.refused("of 1", x, x.snap(2), true, 0);
    edges.refused("again", x, x.snap(2), false, 5);
    edges.refused("none such", x, x.snap(3), false, 1);
    edges.refused("none such", x, x.snap(-1), false, 1);
    x.year();
    edges.due("faded to 1", x.thread(0, 3), 1);
    edges.refused("faded to 1", x, x.snap(0), true, 0);
    x.undo();
    x.year();
    edges.refused("faded to 0", x, x.snap(0), false, 5);
    edges.due("refused ones can't be undone: snap, two years", x.size(10), 3);
    edges.due("m isn't SNAPPED", x.thread(1, 5), 0);
  }

  private void spin() {
    edges.promise(50, "SPIN: its number as a thread");
    PromiseWeb x = edges.web(SPUN + "thread k kept a b strong 1 step 0");
    edges.refused("the second thread", x, x.spin(1), 1, 0);
    int[] row = {0, 1, 0, 9, 0, 0, 0};
    for (int what = 0; what < 7; what++) edges.due("thread(1, " + what + ")", x.thread(1, what), row[what]);
    edges.promise(50, "NONE: 1; 3 (eight threads)");
    edges.refused("no such offer", x, x.spin(2), -1, 1);
    edges.refused("no such offer", x, x.spin(-1), -1, 1);
    for (int t = 2; t < 8; t++) edges.refused("up to eight", x, x.spin(0), t, 0);
    edges.refused("eight threads", x, x.spin(0), -1, 3);
    edges.refused("eight threads, no such offer", x, x.spin(2), -1, 1);
    edges.due("eight", x.size(3), 8);
    x.snap(7);
    edges.refused("eight, one of them SNAPPED", x, x.spin(0), -1, 3);
    x.undo();
    x.undo();
    edges.due("seven", x.size(3), 7);
    edges.refused("one undone", x, x.spin(1), 7, 0);
  }

  private void darn() {
    edges.promise(51, "DARN: its STRENGTH then (0 of one lied on from year 0 on)");
    PromiseWeb x = edges.web(NAILS + "thread m lied a b strong 9 step 0;thread l lied a b strong 9 step 1;thread k kept a b strong 3 step 0;"
        + "thread p proving a b strong 98 step 20");
    x.year();
    edges.refused("lied on from year 0 on", x, x.darn(0), 0, 0);
    edges.refused("lied on from year 1 on", x, x.darn(1), 9, 0);
    edges.refused("kept", x, x.darn(2), 3, 0);
    edges.refused("proving", x, x.darn(3), 98, 0);
    edges.due("four ACTS and the year", x.size(10), 5);
    x.snap(2);
    edges.refused("SNAPPED, no year gone by", x, x.darn(2), 3, 0);
  }

  private void darnRefused() {
    edges.promise(51, "NONE: 1; 5 (it isn't SNAPPED, and no year went by since it was told, spun, or darned)");
    PromiseWeb x = edges.web(SPUN + "thread k kept a b strong 3 step 0;thread m lied a b strong 9 step 0");
    edges.refused("none such", x, x.darn(2), -1, 1);
    edges.refused("none such", x, x.darn(-1), -1, 1);
    edges.refused("told this year", x, x.darn(0), -1, 5);
    edges.refused("told this year, though it doesn't HOLD", x, x.darn(1), -1, 5);
    x.year();
    edges.refused("told a year ago", x, x.darn(0), 3, 0);
    edges.refused("darned this year", x, x.darn(0), -1, 5);
    edges.due("spin(0)", x.spin(0), 2);
    edges.refused("spun this year", x, x.darn(2), -1, 5);
    x.snap(2);
    edges.refused("spun this year, SNAPPED", x, x.darn(2), 5, 0);
    edges.refused("and darned", x, x.darn(2), -1, 5);
    x.year();
    edges.refused("spun a year ago", x, x.darn(2), 5, 0);
    edges.refused("darned a year ago", x, x.darn(0), 3, 0);
    x.undo();
    edges.refused("that undone", x, x.darn(0), 3, 0);
  }

  private void undo() {
    edges.promise(52, "UNDO: true; false: 6");
    PromiseWeb none = new PromiseWeb();
    edges.refused("no WEB", none, none.undo(), false, 6);
    PromiseWeb x = edges.web(SPUN + "thread k kept a b strong 3 step 0");
    edges.refused("no ACT", x, x.undo(), false, 6);
    x.spin(0);
    edges.refused("one", x, x.undo(), true, 0);
    edges.refused("no more", x, x.undo(), false, 6);
    x.spin(9);
    x.darn(0);
    x.snap(9);
    x.mend();
    x.image();
    edges.refused("refused ACTS, questions and IMAGES aren't undone", x, x.undo(), false, 6);
    edges.due("the IMAGE stays", x.size(11), 1);
  }

  private void image() {
    edges.promise(53, "An IMAGE: its number. NONE: 1 (no WEB); 3");
    PromiseWeb none = new PromiseWeb();
    edges.refused("no WEB", none, none.image(), -1, 1);
    PromiseWeb x = edges.web(LEAST);
    for (int i = 0; i < 3; i++) {
      edges.due("IMAGES", x.size(11), i);
      edges.refused("image()", x, x.image(), i, 0);
    }
    for (int i = 0; i < 2; i++) edges.refused("a fourth", x, x.image(), -1, 3);
    edges.due("IMAGES", x.size(11), 3);
    x.back(0);
    edges.refused("all stay, gone back to one", x, x.image(), -1, 3);
    Check.tell(x, LEAST);
    edges.refused("of another WEB", x, x.image(), 0, 0);
    edges.due("an IMAGE is no ACT", x.size(10), 0);
  }

  private void back() {
    edges.promise(54, "All is as by an IMAGE (all IMAGES stay): true; false: 1");
    PromiseWeb none = new PromiseWeb();
    edges.refused("no WEB", none, none.back(0), false, 1);
    PromiseWeb x = edges.web(SPUN + "thread f fading a b strong 9 step 4;thread k kept a b strong 3 step 0");
    edges.refused("no IMAGE", x, x.back(0), false, 1);
    x.image();
    String first = sight(x);
    x.year();
    x.snap(1);
    x.spin(0);
    x.image();
    String second = sight(x);
    x.year();
    x.darn(0);
    x.spin(1);
    edges.refused("one more than there are", x, x.back(2), false, 1);
    edges.refused("one less", x, x.back(-1), false, 1);
    for (int i = 0; i < 2; i++) {
      edges.refused("the second", x, x.back(1), true, 0);
      edges.same("as by it", sight(x), second);
      edges.due("IMAGES", x.size(11), 2);
      x.darn(1);
      edges.refused("the first", x, x.back(0), true, 0);
      edges.same("as by it", sight(x), first);
      edges.due("IMAGES", x.size(11), 2);
      x.year();
    }
  }

  /** What led() throws, 0 for nothing. */
  private static int thrown(PromiseWeb x, int i) {
    try {
      x.led(i);
      return 0;
    } catch (NoSuchElementException e) {
      return 1;
    } catch (RuntimeException e) {
      return 2;
    }
  }

  private void led() {
    edges.promise(55, "The i-th thread, by numbers, that doesn't HOLD. NoSuchElementException if there is none such");
    edges.due("no WEB", thrown(new PromiseWeb(), 0), 1);
    edges.due("no thread", thrown(edges.web(LEAST), 0), 1);
    PromiseWeb x = edges.web(NAILS + "thread f fading a b strong 2 step 1;thread m lied a b strong 9 step 0;thread k kept a b strong 1 step 0;"
        + "thread l lied a b strong 9 step 1");
    edges.due("m", x.led(0), 1);
    edges.due("one more", thrown(x, 1), 1);
    edges.due("one less", thrown(x, -1), 1);
    for (int far : Edges.FAR) edges.due("led(" + far + ")", thrown(x, far), 1);
    x.snap(2);
    edges.due("k SNAPPED", x.led(1), 2);
    x.year();
    x.year();
    for (int i = 0; i < 4; i++) edges.due("led(" + i + ") of all four", x.led(i), i);
    edges.due("led(4) of all four", thrown(x, 4), 1);
    x.holding(61);
    edges.due("led() that throws", thrown(x, 4), 1);
    edges.due("TROUBLE stays", x.trouble(), 2);
    x.darn(2);
    edges.due("k darned", x.led(2), 3);
    edges.due("led(3) of three", thrown(x, 3), 1);
    PromiseWeb all = edges.web(NAILS + "thread k kept a b strong 1 step 0");
    edges.due("all HOLD", thrown(all, 0), 1);
  }

  private void size() {
    edges.promise(56, "0 slips, 1 clerks, 2 nails, 3 threads NOW, 4 clashes as told, 5 loads, 6 offers, 7 unsure ones, 8 hairs, 9 years gone by, "
        + "10 ACTS that can be undone, 11 IMAGES, 12 bytes of THE TAPE");
    PromiseWeb x = edges.web("web slips 11 clerks 12;nail a;nail b;nail c;" + Edges.times(4, "thread # kept a b strong 1 step 0;")
        + "clash k l;clash k m;load a b 1;offer a b strong 1 costs 1;offer a c strong 1 costs 1;offer b c strong 1 costs 1;"
        + "unsure k;unsure l;unsure m;unsure n;hair k k clear;hair l l clear;hair m m clear;hair n n clear;hair k l clear");
    x.year();
    x.year();
    x.image();
    x.snap(0);
    x.feed(0, 0, 0, 0, 0);
    int[] sizes = {11, 12, 3, 4, 2, 1, 3, 4, 5, 2, 3, 1, 20};
    for (int what = 0; what < 13; what++) edges.due("size(" + what + ")", x.size(what), sizes[what]);
    edges.promise(56, "NONE for others; 0 for what there isn't");
    x.holding(61);
    edges.due("size(-1)", x.size(-1), -1);
    edges.due("size(13)", x.size(13), -1);
    for (int far : Edges.FAR) edges.due("size(" + far + ")", x.size(far), -1);
    edges.due("TROUBLE stays", x.trouble(), 2);
    PromiseWeb none = new PromiseWeb();
    PromiseWeb least = edges.web("web slips 0 clerks 0;nail a");
    for (int what = 0; what < 13; what++) {
      edges.due("no WEB, size(" + what + ")", none.size(what), 0);
      edges.due("one nail, size(" + what + ")", least.size(what), what == 2 ? 1 : 0);
    }
    edges.due("no WEB, size(-1)", none.size(-1), -1);
    edges.due("no WEB, size(13)", none.size(13), -1);
  }

  private void sizeChanging() {
    edges.promise(56, "3 threads NOW, 4 clashes as told");
    PromiseWeb x = edges.web(SPUN + "thread k kept a b strong 1 step 0;thread l kept a b strong 1 step 0;clash k l");
    x.snap(0);
    edges.due("a thread SNAPPED is one still", x.size(3), 2);
    edges.due("the clash", x.size(4), 1);
    x.spin(0);
    edges.due("one spun", x.size(3), 3);
    x.undo();
    edges.due("that undone", x.size(3), 2);
  }

  private void troubleTerms() {
    edges.terms("IV. TROUBLE of the latest call that may be refused (those of which a number is told here): 0 it wasn't; 1 there is none such; 2 a number; "
        + "3 no room; 4 a FAULT; 5 not so; 6 there is none.");
    PromiseWeb x = edges.web(SPUN + "thread k kept a b strong 1 step 0");
    x.undo();
    edges.due("there is none", x.trouble(), 6);
    x.darn(0);
    edges.due("not so", x.trouble(), 5);
    x.web(0);
    edges.due("a FAULT", x.trouble(), 4);
    for (int i = 0; i < 4; i++) x.image();
    edges.due("no room", x.trouble(), 3);
    x.web(1);
    edges.due("a number", x.trouble(), 2);
    x.thread(1, 0);
    edges.due("there is none such", x.trouble(), 1);
    x.thread(0, 0);
    edges.due("it wasn't", x.trouble(), 0);
  }

  private void trouble() {
    edges.promise(57, "TROUBLE");
    PromiseWeb x = edges.web(SPUN + "thread k kept a b strong 1 step 0");
    edges.due("behind web()", x.trouble(), 0);
    x.holding(61);
    edges.due("asked", x.trouble(), 2);
    edges.due("asked again", x.trouble(), 2);
    x.fault();
    x.where();
    x.size(0);
    x.size(13);
    x.feed(0, 0, 0, 0, 0);
    for (int i = 0; i < 45; i++) x.feed(0, 0, 0, 0, 0);
    thrown(x, 0);
    edges.due("behind calls of which no number is told", x.trouble(), 2);
    x.holding(60);
    edges.due("behind one that wasn't", x.trouble(), 0);
    edges.due("of a new object", new PromiseWeb().trouble(), 0);
  }

  private void constants() {
    edges.terms("The constants: `NONE = -1`: There is none; refused.");
    edges.due("NONE", PromiseWeb.NONE, -1);
    edges.due("refused", new PromiseWeb().mend(), PromiseWeb.NONE);
  }

  /** Three feeds, a web, 505 years: the last three are the 510th to the 512th call. */
  private void calls() {
    edges.whatItIs("An object is used for at most 512 calls after it has been made; what later calls answer is free.");
    PromiseWeb x = new PromiseWeb();
    Check.feed(x, "web slips 1 clerks 2;nail a;nail b;load a b 1               ");
    edges.due("the fourth", x.web(60), 2);
    for (int call = 5; call <= 509; call++) edges.due("the one of number " + call, x.year(), 0);
    edges.due("the 510th", x.size(9), 505);
    edges.due("the 511th", x.undo(), true);
    edges.due("the 512th", x.size(9), 504);
  }
}
