/** Each promise by hand: ordinary inputs, edges that the document names, wrong inputs. */
public final class PromisesTest {
  private static final Check check = new Check("PromisesTest");

  /** Strengths 7, 9, 95, 10, 0 at first; 7, 5, 98, 0, 0 behind a year; 7, 1, 99, 0, 0; 7, 0, 99, 0, 0. */
  private static final String WEB = "web slips 10 clerks 25;nail a;nail b;nail c;nail d;"
      + "thread p kept a b strong 7 step 3;thread q fading b c strong 9 step 4;"
      + "thread r proving a c strong 95 step 3;thread s lied c d strong 10 step 1;"
      + "thread z lied a d strong 3 step 0;clash p q;clash r q;clash r s;"
      + "load a c 100;load c d 11;load b d 10;"
      + "offer c d strong 1 costs 5;offer a d strong 50 costs 5;offer b d strong 2 costs 0;"
      + "unsure p;unsure s;unsure z;hair p q brown;hair s s clear;hair z r brown";
  private static final String LEAST = "web slips 0 clerks 0;nail a";

  private static PromiseWeb told(String text) {
    PromiseWeb x = new PromiseWeb();
    int nails = Check.tell(x, text);
    check.due("told: " + text, nails > 0, true);
    return x;
  }

  private static void due(String call, long got, long want) {
    check.due(call, got, want);
  }

  private static void due(String call, boolean got, boolean want) {
    check.due(call, got, want);
  }

  private static void newObject() {
    PromiseWeb x = new PromiseWeb();
    due("1 trouble", x.trouble(), 0);
    due("1 fault", x.fault(), 0);
    due("1 where", x.where(), -1);
    for (int what = 0; what <= 12; what++) due("1 size " + what, x.size(what), 0);
    for (int what : new int[] {-1, 13, Integer.MIN_VALUE, Integer.MAX_VALUE}) due("56 size " + what, x.size(what), -1);
    due("55 led", Check.led(x, 0), -2);
    check.refused("6 thread", x, x.thread(0, 0), -1, 1);
    check.refused("7 nail", x, x.nail(0, 0), -1, 1);
    check.refused("8 strong", x, x.strong(0, 61), -1, 1);
    check.refused("9 breaksIn", x, x.breaksIn(0), -1, 1);
    check.refused("10 holding", x, x.holding(61), -1, 1);
    check.refused("11 strongest", x, x.strongest(-1), -1, 1);
    check.refused("12 bears", x, x.bears(0, 1, 61), -1, 1);
    check.refused("13 cut", x, x.cut(0, 1, 61), -1, 1);
    check.refused("14 vital", x, x.vital(0, 1, 61), -1, 1);
    check.refused("15 needed", x, x.needed(0, 1, 61), -1, 1);
    check.refused("16 weakest", x, x.weakest(61), -1, 1);
    check.refused("17 apart", x, x.apart(0, 0, 61), -1, 1);
    check.refused("18 parts", x, x.parts(61), -1, 1);
    check.refused("19 bridges", x, x.bridges(61), -1, 1);
    check.refused("20 borne", x, x.borne(61), -1, 1);
    check.refused("21 fallsIn", x, x.fallsIn(0), -1, 1);
    check.refused("22 spare", x, x.spare(0), -1000, 1);
    check.refused("23 mend", x, x.mend(), -1, 1);
    check.refused("24 mendCost", x, x.mendCost(), -1, 1);
    check.refused("25 bestOffer", x, x.bestOffer(), -1, 1);
    check.refused("26 clashes", x, x.clashes(61), -1, 1);
    check.refused("27 breakFew", x, x.breakFew(), -1, 1);
    check.refused("28 breakRued", x, x.breakRued(), -1, 1);
    check.refused("29 rue", x, x.rue(), -1, 1);
    check.refused("30 peaces", x, x.peaces(), -1, 1);
    newObjectOfLiarsAndActs(x);
  }

  private static void newObjectOfLiarsAndActs(PromiseWeb x) {
    check.refused("31 fits", x, x.fits(), -1, 1);
    check.refused("32 fitAt", x, x.fitAt(0), -1, 1);
    check.refused("33 odds", x, x.odds(0, false), -1, 1);
    check.refused("34 likeliest", x, x.likeliest(), -1, 1);
    check.refused("35 test", x, x.test(), -1, 1);
    check.refused("36 testLeaves", x, x.testLeaves(), -1, 1);
    check.refused("37 brown", x, x.brown(0, 0, true), -1, 1);
    check.refused("38 judge", x, x.judge(), -1, 1);
    check.refused("39 snaps", x, x.snaps(0, 1), -1, 1);
    check.refused("40 snapsBy", x, x.snapsBy(0, 1), -1, 1);
    check.refused("41 blows", x, x.blows(10, true, true, true), -100, 1);
    check.refused("42 rests", x, x.rests(10), -1, 1);
    check.refused("43 rest", x, x.rest(10), -1, 1);
    check.refused("44 bearOdds", x, x.bearOdds(0, 1, 801, true), -1, 1);
    check.refused("45 mean", x, x.mean(0, 1, true), -1, 1);
    check.refused("46 years", x, x.years(-1, 61), -1, 1);
    check.refused("47 fallsBy", x, x.fallsBy(0, -1, 61), -1, 1);
    check.refused("48 year", x, x.year(), -1, 1);
    check.refused("49 snap", x, x.snap(0), false, 1);
    check.refused("50 spin", x, x.spin(0), -1, 1);
    check.refused("51 darn", x, x.darn(0), -1, 1);
    check.refused("52 undo", x, x.undo(), false, 6);
    check.refused("53 image", x, x.image(), -1, 1);
    check.refused("54 back", x, x.back(0), false, 1);
  }

  private static void feed() {
    PromiseWeb x = new PromiseWeb();
    for (int i = 1; i <= 45; i++) due("2 feed " + i, x.feed(0x20202020, -1, 0, 1, 2), 20 * i);
    due("2 feed, full", x.feed(0, 0, 0, 0, 0), -1);
    due("2 size, full", x.size(12), 900);
    due("2 not refused by number", x.trouble(), 0);
    check.refused("3 web(901)", x, x.web(901), -1, 2);
    check.refused("3 web(-1)", x, x.web(-1), -1, 2);
    due("3 THE TAPE stays", x.size(12), 900);
    due("4 no FAULT yet", x.fault(), 0);
    check.refused("3 web(900)", x, x.web(900), -1, 4);
    due("5 a byte that begins no TOKEN", x.where(), 4);
    due("2 feed does not touch where", x.feed(0, 0, 0, 0, 0), 20);
    due("5 where still", x.where(), 4);
    due("57 trouble still", x.trouble(), 4);
  }

  private static void web() {
    PromiseWeb x = new PromiseWeb();
    Check.feed(x, LEAST + ";nail b");
    due("3 web, the first n", x.web(LEAST.length()), 1);
    due("3 empty then", x.size(12), 0);
    due("4 fault", x.fault(), 0);
    due("3 year", x.year(), 0);
    due("3 image", x.image(), 0);
    Check.feed(x, "web slips 1 clerks 2;nail");
    check.refused("3 faulty", x, x.web(25), -1, 4);
    due("4 fault", x.fault(), 1);
    due("5 where", x.where(), 25);
    due("3 empty behind a FAULT too", x.size(12), 0);
    due("3 the WEB stays", x.size(9) * 100 + x.size(10) * 10 + x.size(11), 111);
    check.refused("3 a number", x, x.web(1), -1, 2);
    due("4 the FAULT of the latest not refused by 2", x.fault(), 1);
    due("5 where, refused by 2", x.where(), -1);
    due("3 anew", Check.tell(x, "web slips 1 clerks 2;nail a;nail b"), 2);
    due("4 without one", x.fault(), 0);
    due("3 nothing of the old", x.size(9) * 100 + x.size(10) * 10 + x.size(11), 0);
    due("56 slips", x.size(0), 1);
    due("56 clerks", x.size(1), 2);
    check.refused("3 nothing to undo", x, x.undo(), false, 6);
    check.refused("3 no IMAGES", x, x.back(0), false, 1);
  }

  private static void fault(String text, int number, int place) {
    PromiseWeb x = new PromiseWeb();
    due("3 " + text, Check.tell(x, text), -1);
    due("3 trouble: " + text, x.trouble(), 4);
    due("4 fault: " + text, x.fault(), number);
    due("5 where: " + text, x.where(), place);
    due("3 no WEB: " + text, x.size(2), 0);
    x.undo();
    due("5 where behind another refusal", x.where(), -1);
    due("4 fault behind another refusal", x.fault(), number);
  }

  /** A FAULT at the place of the sign < in what comes behind two nails and two threads. */
  private static void faultBehind(String marked, int number) {
    String head = "web slips 5 clerks 5;nail a;nail b;thread t kept a b strong 5 step 0;thread u lied a b strong 5 step 1;";
    int place = head.length() + marked.indexOf('<');
    fault(head + marked.replace("<", ""), number, place);
  }

  private static void faults() {
    fault("", 1, 0);
    fault("   ", 1, 3);
    fault(";", 1, 0);
    fault("web slips 5 clerks 5", 6, 20);
    fault("web slips 5 clerks 5  ", 6, 22);
    fault("web slips 5 clerks 5;", 1, 21);
    fault("web slips 5 clerks 5;;nail a", 1, 21);
    fault("nail a;web slips 5 clerks 5", 6, 0);
    fault("  clash a", 6, 2);
    fault("foo", 1, 0);
    fault("web slips 101 clerks 5;nail a", 4, 10);
    fault("web slips 100 clerks 101;nail a", 4, 21);
    fault("web slips 1000 clerks 5;nail a", 1, 10);
    fault("web slips x clerks 5", 1, 10);
    fault("web slips 5 nail a", 1, 12);
    fault("web slips 5 clerks 5 nail a", 1, 21);
    fault("web slips 5 clerks 5;nail A", 1, 26);
    fault("web slips 5 clerks 5;nail abcdefghi", 1, 26);
    fault("web slips 5 clerks 5;nail " + (char) 225, 1, 26);
    fault("web slips 5 clerks 5;nail a1", 1, 27);
    fault("web slips 5 clerks 5;nail a\n;nail b", 1, 27);
    faultBehind("<web slips 5 clerks 5", 3);
    faultBehind("nail <t", 3);
    faultBehind("nail <a", 3);
    faultBehind("nail <web", 1);
    faultBehind("thread <a kept a b strong 5 step 0", 3);
    faultBehind("thread <t kept a b strong 5 step 0", 3);
    faultBehind("thread w <spun a b strong 5 step 0", 1);
    faultBehind("thread w kept <t b strong 5 step 0", 2);
    faultBehind("thread w kept <w b strong 5 step 0", 2);
    faultBehind("thread w kept a <c strong 5 step 0", 2);
    faultBehind("thread w kept a <a strong 0 step 0", 3);
    faultBehind("thread w kept a <nail strong 0 step 0", 1);
    faultBehind("thread w kept a b <step 0", 1);
    faultBehind("thread w kept a b strong <0 step 0", 4);
    faultBehind("thread w kept a b strong <100 step 0", 4);
    faultBehind("thread w kept a b strong 99 step <21", 4);
    faultBehind("thread w kept a b strong 99 step<", 1);
    faultBehind("clash t <a", 2);
    faultBehind("clash <a t", 2);
    faultBehind("clash t <t", 3);
    faultBehind("clash t u;clash t <u", 3);
    faultBehind("clash t u;clash u <t", 3);
    faultBehind("load a <a 5", 3);
    faultBehind("load a <t 5", 2);
    faultBehind("load a b <0", 4);
    faultBehind("load a b <301", 4);
    faultBehind("offer a <a strong 1 costs 1", 3);
    faultBehind("offer <u a strong 1 costs 1", 2);
    faultBehind("offer a b strong <0 costs 1", 4);
    faultBehind("offer a b strong <100 costs 1", 4);
    faultBehind("offer a b strong 99 costs <100", 4);
    faultBehind("offer a b <costs 1", 1);
    faultBehind("unsure <a", 2);
    faultBehind("unsure t;unsure <t", 3);
    faultBehind("hair t <a brown", 2);
    faultBehind("hair t u <grey", 1);
    manyFaults();
  }

  private static String times(int n, String line) {
    StringBuilder all = new StringBuilder();
    for (int i = 0; i < n; i++) all.append(line.replace("#", "" + (char) ('k' + i)));
    return all.toString();
  }

  private static void manyFaults() {
    faultBehind(times(5, "nail #;") + "<nail", 5);
    faultBehind(times(5, "thread # kept a b strong 1 step 0;") + "<thread", 5);
    faultBehind(times(4, "load a b 1;") + "<load a a", 5);
    faultBehind(times(5, "offer a b strong 1 costs 1;") + "<offer", 5);
    faultBehind(times(6, "hair t t clear;") + "<hair", 5);
    String five = times(5, "thread # kept a b strong 1 step 0;");
    faultBehind(five + "unsure t;unsure u;unsure k;unsure l;unsure m;<unsure t", 5);
    faultBehind(five + "clash t u;clash t k;clash t l;clash t m;clash t n;clash u k;clash u l;clash u m;<clash t u", 5);
  }

  private static void textForms() {
    due("3 no blanks needed where TOKENS part", Check.tell(new PromiseWeb(), "web slips5clerks 007 ; nail strong;  nail abcdefgh "), 2);
    PromiseWeb x = told("web slips 100 clerks 0;nail a;nail kept;thread strong kept a kept strong 99 step 20;unsure strong;"
        + "hair strong strong brown");
    due("3 words of LINES as NAMES", x.thread(0, 2), 1);
    due("56 hairs", x.size(8), 1);
    StringBuilder full = new StringBuilder("web slips 0 clerks 0;nail a");
    while (full.length() < 900) full.append(' ');
    due("3 all of 900", Check.tell(new PromiseWeb(), full.toString()), 1);
  }

  private static void threadsAndNails() {
    PromiseWeb x = told(WEB);
    int[][] rows = {{0, 0, 1, 7, 3, 0, 2}, {1, 1, 2, 9, 4, 0, 5}, {2, 0, 2, 95, 3, 0, 10}, {3, 2, 3, 10, 1, 0, 4}, {3, 0, 3, 0, 0, 0, 0}};
    for (int t = 0; t < rows.length; t++)
      for (int what = 0; what < 7; what++) due("6 thread " + t + " " + what, x.thread(t, what), rows[t][what]);
    due("57 not refused", x.trouble(), 0);
    check.refused("6 thread 5", x, x.thread(5, 0), -1, 1);
    check.refused("6 thread -1", x, x.thread(-1, 0), -1, 1);
    check.refused("6 what 7", x, x.thread(0, 7), -1, 1);
    check.refused("6 what -1", x, x.thread(0, -1), -1, 1);
    due("7 at a", x.nail(0, 0), 5);
    due("7 at a, together", x.nail(0, 1), 102);
    due("7 at c", x.nail(2, 0), 14);
    due("7 at c, together", x.nail(2, 1), 114);
    check.refused("7 nail 4", x, x.nail(4, 0), -1, 1);
    check.refused("7 nail -1", x, x.nail(-1, 0), -1, 1);
    check.refused("7 what 2", x, x.nail(0, 2), -1, 1);
    due("8 kept", x.strong(0, 60), 7);
    due("8 fading", x.strong(1, 2), 1);
    due("8 faded", x.strong(1, 3), 0);
    due("8 proving", x.strong(2, 1), 98);
    due("8 proved", x.strong(2, 2), 99);
    due("8 lied", x.strong(3, 0), 10);
    due("8 lied from year 1", x.strong(3, 1), 0);
    due("8 lied from year 0", x.strong(4, 0), 0);
    check.refused("8 n 61", x, x.strong(0, 61), -1, 2);
    check.refused("8 n -1", x, x.strong(0, -1), -1, 2);
    check.refused("8 1 ahead of 2", x, x.strong(5, 61), -1, 1);
    int[] breaks = {-2, 3, -2, 1, 0};
    for (int t = 0; t < 5; t++) due("9 breaksIn " + t, x.breaksIn(t), breaks[t]);
    check.refused("9 breaksIn 5", x, x.breaksIn(5), -1, 1);
    int[] held = {15, 7, 7, 5};
    for (int n = 0; n < 4; n++) due("10 holding " + n, x.holding(n), held[n]);
    check.refused("10 holding 61", x, x.holding(61), -1, 2);
    due("11 strongest", x.strongest(0), 2);
    check.refused("11 strongest -1", x, x.strongest(-1), -1, 2);
    PromiseWeb slow = told("web slips 0 clerks 0;nail a;nail b;thread p fading a b strong 60 step 1;thread q fading a b strong 61 step 1;"
        + "thread r kept a b strong 10 step 0;thread s kept b a strong 10 step 0");
    due("9 in 60", slow.breaksIn(0), 60);
    due("9 in 61", slow.breaksIn(1), -2);
    due("11 the first such", slow.strongest(59), 2);
    due("11 none HOLDS", told("web slips 0 clerks 0;nail a;nail b;thread p lied a b strong 1 step 0").strongest(0), -2);
  }

  private static void bearing() {
    PromiseWeb x = told(WEB);
    int[][] bears = {{0, 16, 102, 10}, {16, 0, 16, 10}, {102, 16, 0, 10}, {10, 10, 10, 0}};
    for (int a = 0; a < 4; a++)
      for (int b = 0; b < 4; b++)
        if (a != b) due("12 bears " + a + " " + b, x.bears(a, b, 0), bears[a][b]);
    due("12 a year on", x.bears(0, 2, 1), 103);
    due("12 three on", x.bears(0, 2, 3), 99);
    due("12 nothing", x.bears(0, 3, 1), 0);
    check.refused("12 alike", x, x.bears(1, 1, 0), -1, 1);
    check.refused("12 no nail", x, x.bears(0, 4, 0), -1, 1);
    check.refused("12 no nail", x, x.bears(-1, 0, 0), -1, 1);
    check.refused("12 n", x, x.bears(0, 1, 61), -1, 2);
    due("13 cut a c", x.cut(0, 2, 0), 5);
    due("13 cut a c, a year on", x.cut(0, 2, 1), 6);
    due("13 cut a b", x.cut(0, 1, 0), 3);
    due("13 cut d a", x.cut(3, 0, 0), 8);
    due("13 cut of nothing", x.cut(0, 3, 1), 0);
    check.refused("13 alike", x, x.cut(1, 1, 0), -1, 1);
    check.refused("13 n", x, x.cut(1, 0, -1), -1, 2);
    due("14 vital a c", x.vital(0, 2, 0), 2);
    due("14 vital a d", x.vital(0, 3, 0), 3);
    check.refused("14 alike", x, x.vital(0, 0, 0), -1, 1);
    check.refused("14 n", x, x.vital(0, 1, 61), -1, 2);
    due("15 needed a c", x.needed(0, 2, 0), 7);
    due("15 needed a d", x.needed(0, 3, 0), 12);
    due("15 needed for nothing", x.needed(0, 3, 1), 0);
    check.refused("15 alike", x, x.needed(3, 3, 0), -1, 1);
    check.refused("15 n", x, x.needed(0, 1, 61), -1, 2);
    due("16 weakest", x.weakest(0), 3);
    check.refused("16 n", x, x.weakest(61), -1, 2);
    due("16 no two", told(LEAST).weakest(0), -2);
    PromiseWeb many = told("web slips 0 clerks 0;nail a;nail b;nail c;thread p kept a b strong 2 step 0;thread q kept a c strong 2 step 0;"
        + "thread r kept c b strong 2 step 0;thread s kept a b strong 2 step 0;thread v kept a c strong 4 step 0");
    due("13 of like sums the fewest: p and s and r, or q and v and r", many.bears(0, 1, 0), 6);
    due("13 of as few the least bits", many.cut(0, 1, 0), 13);
    PromiseWeb few = told("web slips 0 clerks 0;nail a;nail b;nail c;thread p kept a b strong 1 step 0;thread q kept a b strong 1 step 0;"
        + "thread r kept b c strong 2 step 0");
    due("13 the fewest", few.cut(0, 2, 0), 4);
    due("14 the first such", few.vital(0, 1, 0), 0);
    due("14 where no thread matters, the first that HOLDS",
        told("web slips 0 clerks 0;nail a;nail b;nail c;thread p lied a b strong 1 step 0;thread q kept a b strong 1 step 0").vital(0, 2, 0), 1);
    due("14 none HOLDS", told("web slips 0 clerks 0;nail a;nail b").vital(0, 1, 0), -2);
  }

  private static void parts() {
    PromiseWeb x = told(WEB);
    due("17 itself", x.apart(3, 3, 60), 0);
    due("17 b d", x.apart(1, 3, 0), 2);
    due("17 a b", x.apart(0, 1, 3), 1);
    due("17 b c, q gone", x.apart(1, 2, 3), 2);
    due("17 a d, s gone", x.apart(0, 3, 1), -2);
    check.refused("17 no nail", x, x.apart(0, 4, 0), -1, 1);
    check.refused("17 no nail", x, x.apart(-1, 0, 0), -1, 1);
    check.refused("17 n", x, x.apart(0, 0, 61), -1, 2);
    due("18 whole", x.parts(0), 1);
    due("18 in two", x.parts(1), 2);
    check.refused("18 n", x, x.parts(-1), -1, 2);
    due("19 bridges", x.bridges(0), 8);
    due("19 bridges later", x.bridges(3), 5);
    check.refused("19 n", x, x.bridges(61), -1, 2);
    PromiseWeb row = told("web slips 0 clerks 0;nail a;nail b;nail c;nail d;nail e;nail f;nail g;thread p kept a b strong 1 step 0;"
        + "thread q kept c b strong 1 step 0;thread r kept c d strong 1 step 0;thread s kept e d strong 1 step 0;"
        + "thread t kept e f strong 1 step 0;thread u kept g f strong 1 step 0");
    due("17 all along", row.apart(0, 6, 0), 6);
    due("18 all along", row.parts(0), 1);
    due("19 all along", row.bridges(0), 63);
    due("12 all along", row.bears(6, 0, 60), 1);
  }

  private static void loadsAndOffers() {
    PromiseWeb x = told(WEB);
    int[] borne = {5, 1, 1, 0};
    for (int n = 0; n < 4; n++) due("20 borne " + n, x.borne(n), borne[n]);
    check.refused("20 n", x, x.borne(61), -1, 2);
    due("21 in three", x.fallsIn(0), 3);
    due("21 now", x.fallsIn(1), 0);
    due("21 in one", x.fallsIn(2), 1);
    check.refused("21 no load", x, x.fallsIn(3), -1, 1);
    PromiseWeb slow = told("web slips 0 clerks 0;nail a;nail b;nail c;thread p fading a b strong 60 step 1;"
        + "thread q fading b c strong 61 step 1;thread r lied a c strong 1 step 20;load a b 1;load c b 1;load a c 2");
    due("21 in 60", slow.fallsIn(0), 60);
    due("21 in 61", slow.fallsIn(1), -2);
    due("21 two ways, the one lied on", slow.fallsIn(2), 59);
    check.refused("21 no load", x, x.fallsIn(-1), -1, 1);
    due("22 over", x.spare(0), 2);
    due("22 under", x.spare(1), -1);
    due("22 just", x.spare(2), 0);
    check.refused("22 no load", x, x.spare(3), -1000, 1);
    due("23 the cheapest", x.mend(), 4);
    due("24 its cost", x.mendCost(), 0);
    due("25 the first of the best", x.bestOffer(), 0);
    PromiseWeb far = told("web slips 0 clerks 0;nail a;nail b;thread p kept a b strong 1 step 0;load a b 300;load a b 150;"
        + "offer a b strong 99 costs 9;offer a b strong 99 costs 9;offer a b strong 99 costs 9;offer a b strong 3 costs 1");
    due("23 all aren't enough? 1 and 300", far.mend(), 15);
    due("24 cost", far.mendCost(), 28);
    due("25 by none more", far.bestOffer(), -2);
    far.snap(0);
    due("23 just enough", far.mend(), 15);
    far = told("web slips 0 clerks 0;nail a;nail b;load a b 298;offer a b strong 99 costs 9");
    due("23 all aren't enough", far.mend(), -2);
    due("24 all aren't enough", far.mendCost(), -2);
    due("25 no more by it", far.bestOffer(), -2);
    PromiseWeb like = told("web slips 0 clerks 0;nail a;nail b;load a b 2;offer a b strong 1 costs 2;offer a b strong 2 costs 4;offer a b strong 1 costs 2");
    due("23 of like cost the least bits", like.mend(), 2);
    due("25 alone", like.bestOffer(), 1);
    like.spin(1);
    due("23 nothing needed", like.mend(), 0);
    due("24 nothing needed", like.mendCost(), 0);
    due("25 none better", like.bestOffer(), -2);
  }

  private static void mendHoweverMany() {
    StringBuilder text = new StringBuilder("web slips 0 clerks 0;nail a;nail b;");
    text.append(times(7, "thread # kept a b strong 1 step 0;"));
    text.append("load a b 12;load a b 9;").append(times(5, "offer a b strong 1 costs 1;"));
    PromiseWeb x = told(text.substring(0, text.length() - 1));
    due("50 the eighth", x.spin(0), 7);
    check.refused("50 eight threads", x, x.spin(0), -1, 3);
    due("23 though there are eight", x.mend(), 15);
    due("24 though there are eight", x.mendCost(), 4);
    due("25 though there are eight", x.bestOffer(), 0);
  }

  private static void clashing() {
    PromiseWeb x = told(WEB);
    due("26 now", x.clashes(0), 3);
    due("26 a year on", x.clashes(1), 2);
    due("26 three on", x.clashes(3), 0);
    check.refused("26 n", x, x.clashes(61), -1, 2);
    due("27 few", x.breakFew(), 5);
    due("28 rued", x.breakRued(), 10);
    due("29 rue", x.rue(), 19);
    due("30 peaces", x.peaces(), 8);
    x.snap(2);
    due("27 few, r gone", x.breakFew(), 1);
    due("28 rued, r gone", x.breakRued(), 1);
    due("29 rue, r gone", x.rue(), 7);
    due("30 peaces, r gone", x.peaces(), 6);
    due("6 clashes stay as told", x.thread(2, 6), 10);
    PromiseWeb like = told("web slips 0 clerks 0;nail a;nail b;thread p kept a b strong 2 step 0;thread q kept a b strong 1 step 0;"
        + "thread r kept a b strong 1 step 0;clash p q;clash p r");
    due("28 of like ones the least bits", like.breakRued(), 1);
    due("27 one", like.breakFew(), 1);
  }

  private static void share(String call, PromiseWeb x, long upper, long lower, long wantUpper, long wantLower) {
    due(call + " upper", upper, wantUpper);
    due(call + " lower", lower, wantLower);
    due(call + " trouble", x.trouble(), 0);
  }

  private static void liars() {
    PromiseWeb x = told(WEB);
    due("31 all fit", x.fits(), 8);
    for (int i = 0; i < 8; i++) due("32 fitAt " + i, x.fitAt(i), i);
    check.refused("32 fitAt 8", x, x.fitAt(8), -1, 1);
    check.refused("32 fitAt -1", x, x.fitAt(-1), -1, 1);
    share("33 p", x, x.odds(0, false), x.odds(0, true), 9, 10);
    share("33 s", x, x.odds(1, false), x.odds(1, true), 1, 10);
    share("33 z", x, x.odds(2, false), x.odds(2, true), 9, 10);
    check.refused("33 no such", x, x.odds(3, true), -1, 1);
    check.refused("33 no such", x, x.odds(-1, false), -1, 1);
    due("34 likeliest", x.likeliest(), 5);
    due("35 test", x.test(), 0);
    due("36 leaves", x.testLeaves(), 4);
    share("37 s z", x, x.brown(3, 4, false), x.brown(3, 4, true), 91, 100);
    share("37 p p", x, x.brown(0, 0, false), x.brown(0, 0, true), 9, 10);
    share("37 q r", x, x.brown(1, 2, false), x.brown(1, 2, true), 0, 1);
    check.refused("37 no such", x, x.brown(0, 5, true), -1, 1);
    check.refused("37 no such", x, x.brown(-1, 0, true), -1, 1);
    due("38 judge", x.judge(), 0);
    x.spin(0);
    share("37 a spun one", x, x.brown(5, 5, false), x.brown(5, 5, true), 0, 1);
    share("37 a spun one beside", x, x.brown(5, 3, false), x.brown(5, 3, true), 1, 10);
    strictLiars();
  }

  private static void strictLiars() {
    String head = " clerks 0;nail a;nail b;thread p kept a b strong 1 step 0;thread q kept a b strong 1 step 0;"
        + "thread r kept a b strong 1 step 0;thread l lied a b strong 1 step 9;";
    PromiseWeb x = told("web slips 0" + head + "unsure p;unsure q;unsure r;hair p q brown;hair q r clear");
    due("31 none wrong", x.fits(), 1);
    due("32 it", x.fitAt(0), 1);
    share("33 p", x, x.odds(0, false), x.odds(0, true), 1, 1);
    share("33 q", x, x.odds(1, false), x.odds(1, true), 0, 1);
    due("34 it", x.likeliest(), 1);
    due("35 any, the first", x.test(), 0);
    due("36 it stays", x.testLeaves(), 1);
    share("37 by KIND", x, x.brown(3, 1, false), x.brown(3, 1, true), 1, 1);
    due("38 judge", x.judge(), 0);
    x = told("web slips 100" + head + "unsure p;unsure q;hair p q brown;hair l p clear");
    due("31 all wrong", x.fits(), 1);
    due("32 it", x.fitAt(0), 0);
    due("38 judge, the first", x.judge(), 0);
    x = told("web slips 0" + head + "unsure p;unsure l;hair q r brown");
    due("31 none", x.fits(), 0);
    check.refused("32 none", x, x.fitAt(0), -1, 1);
    share("33 none", x, x.odds(0, false), x.odds(0, true), 0, 1);
    due("34 none", x.likeliest(), -2);
    due("35 none", x.test(), -2);
    due("36 none", x.testLeaves(), -2);
    share("37 none, whatever KIND", x, x.brown(3, 3, false), x.brown(3, 3, true), 0, 1);
    x = told("web slips 0" + head + "unsure p;unsure q;unsure r;hair p q brown;hair p r brown");
    due("31 p, or q and r", x.fits(), 5);
    due("32 by bits", x.fitAt(4), 7);
    share("33 q", x, x.odds(1, false), x.odds(1, true), 3, 5);
    due("35 q leaves 3", x.test(), 1);
    due("36 q leaves 3", x.testLeaves(), 3);
    due("34 the first", x.likeliest(), 1);
    x = told("web slips 0" + head + "unsure l;hair l l clear");
    due("31 a lied one that isn't lied on", x.fitAt(0), 0);
    share("33 it isn't", x, x.odds(0, false), x.odds(0, true), 0, 1);
    due("38 by KIND", x.judge(), 0);
    x = told(LEAST);
    due("31 the empty set", x.fits(), 1);
    due("34 the empty set", x.likeliest(), 0);
    due("35 no unsure one", x.test(), -2);
    due("36 no unsure one", x.testLeaves(), -2);
    due("38 no hair", x.judge(), -2);
  }

  private static void turns() {
    PromiseWeb x = told(WEB);
    due("39 c d", x.snaps(2, 3), 1);
    due("40 c d", x.snapsBy(2, 3), 0);
    due("39 a c", x.snaps(0, 2), 1);
    due("40 a c", x.snapsBy(0, 2), 0);
    due("39 a b", x.snaps(0, 1), 1);
    due("40 a b", x.snapsBy(0, 1), 1);
    check.refused("39 alike", x, x.snaps(0, 0), -1, 1);
    check.refused("40 alike", x, x.snapsBy(0, 0), -1, 1);
    check.refused("40 no nail", x, x.snapsBy(0, 4), -1, 1);
    x.snap(0);
    due("39 c d, p gone", x.snaps(2, 3), 0);
    due("40 c d, p gone", x.snapsBy(2, 3), -2);
    due("39 a b, p gone", x.snaps(0, 1), 1);
    due("40 a b, p gone: the one that doesn't matter", x.snapsBy(0, 1), 3);
    x.snap(3);
    due("39 who begins has won", x.snaps(2, 3), 1);
    due("40 who begins has won", x.snapsBy(2, 3), -2);
  }

  private static void blows() {
    PromiseWeb x = told(LEAST);
    int[][] gains = {{1, 1}, {-1, 2}, {2, -1}, {-3, -3}};
    for (int pair = 0; pair < 4; pair++)
      for (int who = 0; who < 2; who++) due("41 blows " + pair + " " + who, x.blows(4, pair >= 2, pair % 2 == 1, who == 1), gains[pair][who]);
    due("41 of 0", x.blows(0, true, true, false), 1);
    due("41 of 9", x.blows(9, true, true, true), -8);
    int[] rests = {1, 1, 3, 2};
    int[] firsts = {11, 11, 1, 1};
    for (int web = 0; web <= 9; web++) {
      due("42 rests " + web, x.rests(web), rests[Math.min(web, 3)]);
      due("43 rest " + web, x.rest(web), firsts[Math.min(web, 3)]);
    }
    for (int web : new int[] {-1, 10}) {
      check.refused("41 web", x, x.blows(web, false, false, false), -100, 2);
      check.refused("42 web", x, x.rests(web), -1, 2);
      check.refused("43 web", x, x.rest(web), -1, 2);
    }
  }

  private static void clerks() {
    PromiseWeb x = told(WEB);
    share("44 s stays", x, x.bearOdds(2, 3, 10, false), x.bearOdds(2, 3, 10, true), 3, 4);
    share("44 s and r", x, x.bearOdds(0, 3, 8, false), x.bearOdds(0, 3, 8, true), 9, 16);
    share("44 s and some", x, x.bearOdds(3, 0, 7, false), x.bearOdds(3, 0, 7, true), 171, 256);
    share("44 never", x, x.bearOdds(0, 3, 800, false), x.bearOdds(0, 3, 800, true), 0, 1);
    share("44 surely", x, x.bearOdds(0, 3, 0, false), x.bearOdds(0, 3, 0, true), 1, 1);
    check.refused("44 alike", x, x.bearOdds(0, 0, 801, true), -1, 1);
    check.refused("44 much", x, x.bearOdds(0, 1, 801, true), -1, 2);
    check.refused("44 much", x, x.bearOdds(0, 1, -1, true), -1, 2);
    share("45 mean", x, x.mean(0, 3, false), x.mean(0, 3, true), 1629, 256);
    check.refused("45 alike", x, x.mean(3, 3, true), -1, 1);
    due("46 none yet", x.years(0, 0), 15);
    due("46 one", x.years(0, 1), 5);
    due("46 two", x.years(0, 2), 5);
    due("46 three", x.years(0, 3), 4);
    due("46 highest SEED as 0 less one: -75 and 74", x.years(65536, 0), 15);
    check.refused("46 n", x, x.years(0, 61), -1, 2);
    check.refused("46 SEED", x, x.years(65537, 0), -1, 2);
    check.refused("46 SEED", x, x.years(-1, 0), -1, 2);
    due("47 in one", x.fallsBy(0, 0, 60), 1);
    due("47 in none", x.fallsBy(0, 0, 0), -2);
    check.refused("47 no load", x, x.fallsBy(3, -1, 61), -1, 1);
    check.refused("47 n", x, x.fallsBy(0, 0, -1), -1, 2);
    check.refused("47 SEED", x, x.fallsBy(0, 65537, 1), -1, 2);
    PromiseWeb lone = told("web slips 0 clerks 25;nail a;nail b;thread p kept a b strong 1 step 0;load a b 1");
    // draws by 0: 74, 24
    due("47 in two", lone.fallsBy(0, 0, 60), 2);
    due("47 not in one", lone.fallsBy(0, 0, 1), -2);
    due("46 in one", lone.years(0, 1), 1);
    due("46 in two", lone.years(0, 2), 0);
    mostClerks();
  }

  private static void mostClerks() {
    String eight = times(7, "thread # kept a b strong 99 step 0;") + "offer a b strong 99 costs 0";
    PromiseWeb x = told("web slips 0 clerks 1;nail a;nail b;" + eight);
    x.spin(0);
    share("45 of eight", x, x.mean(0, 1, false), x.mean(0, 1, true), 19602, 25);
    share("44 all eight", x, x.bearOdds(0, 1, 792, false), x.bearOdds(0, 1, 792, true), 9227446944279201L, 10000000000000000L);
    share("44 one more", x, x.bearOdds(0, 1, 793, false), x.bearOdds(0, 1, 793, true), 0, 1);
    x = told("web slips 0 clerks 0;nail a;nail b;" + eight);
    x.spin(0);
    share("45 none snapped", x, x.mean(0, 1, false), x.mean(0, 1, true), 792, 1);
    due("46 none snapped", x.years(5, 60), 255);
    x = told("web slips 0 clerks 100;nail a;nail b;" + eight);
    share("45 all snapped", x, x.mean(0, 1, false), x.mean(0, 1, true), 0, 1);
    due("46 all snapped", x.years(5, 1), 0);
  }

  private static void acts() {
    PromiseWeb x = told(WEB);
    due("48 s", x.year(), 8);
    due("56 years", x.size(9), 1);
    due("56 acts", x.size(10), 1);
    due("6 fading NOW", x.thread(1, 3), 5);
    due("8 more years behind", x.strong(1, 1), 1);
    due("55 led 0", Check.led(x, 0), 3);
    due("55 led 1", Check.led(x, 1), 4);
    due("55 led 2", Check.led(x, 2), -2);
    due("55 led -1", Check.led(x, -1), -2);
    check.refused("49 holds not", x, x.snap(3), false, 5);
    check.refused("49 no such", x, x.snap(5), false, 1);
    check.refused("49 no such", x, x.snap(-1), false, 1);
    check.refused("49 snap", x, x.snap(0), true, 0);
    due("6 SNAPPED", x.thread(0, 5), 1);
    due("8 SNAPPED", x.strong(0, 0), 0);
    due("9 SNAPPED", x.breaksIn(0), 0);
    check.refused("49 again", x, x.snap(0), false, 5);
    due("56 refused ones aren't kept", x.size(10), 2);
    due("51 darn", x.darn(0), 7);
    check.refused("51 again", x, x.darn(0), -1, 5);
    due("51 darn s", x.darn(3), 10);
    due("8 lied from a year on again", x.strong(3, 1), 0);
    due("51 lied on from year 0", x.darn(4), 0);
    check.refused("51 then", x, x.darn(4), -1, 5);
    check.refused("51 no such", x, x.darn(5), -1, 1);
    due("51 darn q", x.darn(1), 9);
    due("48 year", x.year(), 8);
    due("8 since it was darned", x.strong(1, 0), 5);
    due("8 since it was told", x.strong(2, 0), 99);
    due("50 spin", x.spin(2), 5);
    due("50 again", x.spin(2), 6);
    due("50 another", x.spin(0), 7);
    check.refused("50 eight", x, x.spin(0), -1, 3);
    check.refused("50 no such", x, x.spin(3), -1, 1);
    check.refused("50 no such", x, x.spin(-1), -1, 1);
    int[] spun = {0, 1, 3, 2, 0, 0, 0};
    for (int what = 0; what < 7; what++) due("50 spun " + what, x.thread(6, what), spun[what]);
    due("56 threads NOW", x.size(3), 8);
    check.refused("51 just spun", x, x.darn(6), -1, 5);
    due("48 year", x.year(), 0);
    due("51 a year behind", x.darn(6), 2);
  }

  private static void undoing() {
    PromiseWeb x = told(WEB);
    x.snap(1);
    x.spin(0);
    x.year();
    x.darn(1);
    due("56 acts", x.size(10), 4);
    check.refused("52 undo darn", x, x.undo(), true, 0);
    due("6 SNAPPED again", x.thread(1, 5), 1);
    x.undo();
    due("56 year back", x.size(9), 0);
    x.undo();
    due("56 thread back", x.size(3), 5);
    x.undo();
    due("10 as told", x.holding(0), 15);
    check.refused("52 none", x, x.undo(), false, 6);
    for (int i = 1; i <= 17; i++) x.year();
    due("56 sixteen are kept", x.size(10), 16);
    for (int i = 1; i <= 16; i++) due("52 undo " + i, x.undo(), true);
    check.refused("52 not the seventeenth", x, x.undo(), false, 6);
    due("56 one year", x.size(9), 1);
    for (int i = 0; i < 30; i++) x.year();
    for (int i = 0; i < 3; i++) x.undo();
    due("56 31 less 3", x.size(9), 28);
  }

  private static void images() {
    PromiseWeb x = told(WEB);
    due("53 first", x.image(), 0);
    x.year();
    x.spin(0);
    due("53 second", x.image(), 1);
    x.undo();
    x.spin(1);
    x.snap(5);
    due("53 third", x.image(), 2);
    check.refused("53 no room", x, x.image(), -1, 3);
    due("56 IMAGES", x.size(11), 3);
    check.refused("54 back", x, x.back(1), true, 0);
    due("6 the one spun then", x.thread(5, 3), 1);
    due("56 nothing can be undone", x.size(10), 0);
    check.refused("52 nothing can be undone", x, x.undo(), false, 6);
    due("56 all IMAGES stay", x.size(11), 3);
    x.back(2);
    due("6 SNAPPED then", x.thread(5, 5), 1);
    due("56 years then", x.size(9), 1);
    x.back(0);
    due("56 years at first", x.size(9), 0);
    due("56 threads at first", x.size(3), 5);
    check.refused("54 no such", x, x.back(3), false, 1);
    check.refused("54 no such", x, x.back(-1), false, 1);
    x.year();
    due("52 from there on", x.undo(), true);
  }

  private static void sizes() {
    PromiseWeb x = told(WEB);
    int[] sizes = {10, 25, 4, 5, 3, 3, 3, 3, 3, 0, 0, 0, 0};
    for (int what = 0; what < 13; what++) due("56 size " + what, x.size(what), sizes[what]);
    due("56 others", x.size(13), -1);
    due("57 size isn't refused", x.trouble(), 0);
    x.bears(0, 0, 0);
    x.size(13);
    Check.led(x, 99);
    due("57 the latest that may be refused", x.trouble(), 1);
    x.mend();
    due("57 it wasn't", x.trouble(), 0);
    due("constant", PromiseWeb.NONE, -1);
  }

  /** LINES at the edges of what they may be. */
  private static void goodOnes() {
    String head = "web slips 5 clerks 5;nail a;nail b;thread t kept a b strong 5 step 0;thread u lied a b strong 5 step 1;";
    for (String line : new String[] {"hair t t brown", "clash t u", "load a b 300", "load b a 1", "offer a b strong 99 costs 0",
        "offer a b strong 1 costs 99", "unsure u;unsure t", "nail slips", "thread v proving b a strong 99 step 20", times(5, "nail #;") + "load a b 1"}) {
      PromiseWeb x = told(head + line);
      due("4 " + line, x.fault(), 0);
      due("5 " + line, x.where(), -1);
    }
  }

  public static void main(String[] args) {
    newObject();
    feed();
    web();
    faults();
    goodOnes();
    textForms();
    threadsAndNails();
    bearing();
    parts();
    loadsAndOffers();
    mendHoweverMany();
    clashing();
    liars();
    turns();
    blows();
    clerks();
    acts();
    undoing();
    images();
    sizes();
    check.finish();
  }
}
