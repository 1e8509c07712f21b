import java.util.function.Supplier;

/** FAULTS, and promises 1 to 5. */
final class WebEdges {
  private static final String WEB = TextEdges.WEB;
  private static final String NAILS = TextEdges.NAILS;
  private static final String THREADS = TextEdges.THREADS;
  private final Edges edges;

  WebEdges(Edges edges) {
    this.edges = edges;
  }

  void all() {
    untold();
    again();
    outOfBounds();
    order();
    newObject();
    feed();
    feedFull();
    firstBytes();
    webFromNow();
    webBehindWeb();
    numberOfBytes();
    faultStays();
    fault();
    where();
  }

  private void untold() {
    edges.terms("2 a NAME that isn't told, or is of another sort than must stand there; at it.");
    edges.fault(NAILS + "thread v kept @c b strong 1 step 0", 2);
    edges.fault(NAILS + "thread v kept a @c strong 1 step 0", 2);
    edges.fault(THREADS + "thread v kept @t b strong 1 step 0", 2);
    edges.fault(THREADS + "thread v kept a @u strong 1 step 0", 2);
    for (String line : new String[] {"load", "offer"}) {
      edges.fault(THREADS + line + " @c b", 2);
      edges.fault(THREADS + line + " a @c", 2);
      edges.fault(THREADS + line + " @t b", 2);
      edges.fault(THREADS + line + " a @t", 2);
    }
    for (String line : new String[] {"clash", "hair"}) {
      edges.fault(THREADS + line + " @v u", 2);
      edges.fault(THREADS + line + " t @v", 2);
      edges.fault(THREADS + line + " @a u", 2);
      edges.fault(THREADS + line + " t @a", 2);
    }
    edges.fault(THREADS + "unsure @v", 2);
    edges.fault(THREADS + "unsure @a", 2);
    edges.fault(THREADS + "unsure @tt", 2);
  }

  private void again() {
    edges.terms("3 a NAME told again; at it; a second NAIL (THREAD of a clash) that is the first, a clash told already, a THREAD unsure already; at it;");
    edges.fault(NAILS + "nail @b", 3);
    edges.fault(NAILS + "thread @b", 3);
    edges.fault(THREADS + "nail @t", 3);
    edges.fault(THREADS + "thread @t", 3);
    edges.fault(NAILS + "thread v kept a @a", 3);
    edges.fault(NAILS + "load b @b", 3);
    edges.fault(NAILS + "offer b @b", 3);
    edges.fault(THREADS + "clash u @u", 3);
    edges.fault(THREADS + "clash u t;clash t @u", 3);
    edges.fault(THREADS + "unsure u;unsure @u", 3);
    edges.good(THREADS + "hair u u clear;hair u u clear", 2);
    edges.terms("a second web: at that WORD.");
    edges.fault("web slips 5 clerks 5;@web slips 5 clerks 5;nail a", 3);
    edges.fault(THREADS + "@web slips 5 clerks 5", 3);
    edges.fault(THREADS + "  @web", 3);
    edges.fault(THREADS + "@web !", 3);
  }

  private void outOfBounds() {
    edges.terms("4 a WHOLE out of bounds; at it.");
    edges.fault("web slips @101", 4);
    edges.fault("web slips 100 clerks @101", 4);
    edges.fault(NAILS + "thread v kept a b strong @0", 4);
    edges.fault(NAILS + "thread v kept a b strong @100", 4);
    edges.fault(NAILS + "thread v kept a b strong 99 step @21", 4);
    edges.fault(NAILS + "load a b @0", 4);
    edges.fault(NAILS + "load a b @301", 4);
    edges.fault(NAILS + "offer a b strong @0", 4);
    edges.fault(NAILS + "offer a b strong @100", 4);
    edges.fault(NAILS + "offer a b strong 1 costs @100", 4);
  }

  private void order() {
    edges.terms("FAULTS, the first that is met from the left, of one place the least number:");
    edges.fault("web slips @101 clerks 101;nail a;nail a", 4);
    edges.fault("web slips @101 clerks !", 4);
    edges.fault("web slips @! clerks 101", 1);
    edges.fault(NAILS + "load a @c 0;load a a 0", 2);
    edges.fault(NAILS + "load a @a 0", 3);
    edges.fault(NAILS + "load a b @0;load a a 0;!", 4);
    edges.fault(NAILS + "thread @a lost a a strong 0 step 99", 3);
    edges.fault(NAILS + "thread v @lost a a strong 0 step 99", 1);
    edges.fault(NAILS + "thread v kept @v v strong 0 step 99", 2);
    edges.fault(THREADS + "clash @a a", 2);
    edges.fault("@load x x 999", 6);
    edges.fault("@foo;web slips 5 clerks 5", 1);
    // of one place: 1 and 6, 1 and 2, 1 and 3, 1 and 4, 3 and 5
    edges.fault("@", 1);
    edges.fault(WEB + "@", 1);
    edges.fault(NAILS + "load @ccccccccc b 1", 1);
    edges.fault(NAILS + "load @nail b 1", 1);
    edges.fault(WEB + "nail nails;nail @nail", 1);
    edges.fault(NAILS + "load a b @9999", 1);
    edges.fault(WEB + "@web", 3);
  }

  private void newObject() {
    edges.promise(1, "No WEB");
    PromiseWeb x = new PromiseWeb();
    for (int what = 0; what <= 12; what++) edges.due("size(" + what + ")", x.size(what), 0);
    edges.due("trouble()", x.trouble(), 0);
    edges.due("fault()", x.fault(), 0);
    edges.due("where()", x.where(), -1);
    edges.refused("holding(0)", x, x.holding(0), -1, 1);
    edges.refused("image()", x, x.image(), -1, 1);
    edges.refused("undo()", x, x.undo(), false, 6);
    edges.due("a first FAULT", Check.tell(x, "web slips 5 clerks 5"), -1);
    edges.refused("no WEB yet", x, x.holding(0), -1, 1);
    edges.due("a WEB", Check.tell(x, NAILS + "nail c"), 3);
    edges.refused("holding(0) of it", x, x.holding(0), 0, 0);
    PromiseWeb other = new PromiseWeb();
    edges.due("another object has none", other.holding(0), -1);
  }

  private static int[] ints(byte[] bytes) {
    int[] five = new int[5];
    for (int i = 0; i < 20; i++) five[i / 4] = five[i / 4] << 8 | bytes[i] & 255;
    return five;
  }

  /** A byte that begins no TOKEN at each of the twenty places, the others being blanks. */
  private void feed() {
    edges.promise(2, "Twenty bytes come behind THE TAPE, of each number the highest first: how many it has");
    for (int sign : new int[] {0, 1, 127, 128, 255}) {
      for (int place = 0; place < 20; place++) {
        byte[] bytes = " ".repeat(20).getBytes();
        bytes[place] = (byte) sign;
        int[] five = ints(bytes);
        PromiseWeb x = new PromiseWeb();
        edges.due("feed()", x.feed(five[0], five[1], five[2], five[3], five[4]), 20);
        x.web(20);
        edges.due("the byte " + sign + " at " + place, x.where(), place);
      }
    }
    PromiseWeb x = new PromiseWeb();
    // "web slips 5 clerks 6", then ";nail a" and blanks
    edges.due("feed()", x.feed(0x77656220, 0x736c6970, 0x73203520, 0x636c6572, 0x6b732036), 20);
    edges.due("feed() behind it", x.feed(0x3b6e6169, 0x6c206120, 0x20202020, 0x20202020, 0x20202020), 40);
    edges.due("web(40)", x.web(40), 1);
    edges.due("slips", x.size(0), 5);
    edges.due("clerks", x.size(1), 6);
  }

  private void feedFull() {
    edges.promise(2, "NONE, and none comes, if there would be more than 900");
    PromiseWeb x = new PromiseWeb();
    Check.feed(x, WEB + "nail a" + " ".repeat(853));
    edges.due("44 feeds", x.size(12), 880);
    int blanks = 0x20202020;
    edges.due("the 45th", x.feed(blanks, blanks, blanks, blanks, blanks), 900);
    for (int i = 0; i < 3; i++) {
      edges.due("one more", x.feed(-1, -1, -1, -1, -1), -1);
      edges.due("then size(12)", x.size(12), 900);
    }
    edges.due("it isn't told as TROUBLE", x.trouble(), 0);
    edges.due("web(900), as if it hadn't been", x.web(900), 1);
    edges.due("room again", x.feed(0, 0, 0, 0, 0), 20);
    x.holding(61);
    for (int i = 2; i <= 45; i++) x.feed(0, 0, 0, 0, 0);
    edges.due("full again", x.feed(0, 0, 0, 0, 0), -1);
    edges.due("TROUBLE of an earlier call stays", x.trouble(), 2);
  }

  private void firstBytes() {
    edges.promise(3, "The first n bytes of THE TAPE (it is empty then)");
    String text = NAILS.substring(0, NAILS.length() - 1) + ";nail xyz";
    int[] nails = new int[text.length() + 1];
    for (int n = 0; n <= text.length(); n++) {
      PromiseWeb x = new PromiseWeb();
      Check.feed(x, text);
      nails[n] = x.web(n);
      edges.due("size(12) behind web(" + n + ")", x.size(12), 0);
      edges.due("feed() behind web(" + n + ")", x.feed(0, 0, 0, 0, 0), 20);
    }
    edges.due("none", nails[0], -1);
    edges.due("one LINE too few", nails[20], -1);
    edges.due("the first nail's WORD", nails[26], -1);
    edges.due("the first nail", nails[27], 1);
    edges.due("a ; behind it", nails[28], -1);
    edges.due("two", nails[34], 2);
    edges.due("a NAME cut short", nails[text.length() - 2], 3);
    edges.due("all", nails[text.length()], 3);
    String whole = NAILS + "load a b 123";
    int[] much = {-1000, 1, 12, 123};
    for (int cut = 0; cut <= 3; cut++) {
      PromiseWeb y = new PromiseWeb();
      Check.feed(y, whole);
      edges.due("a WHOLE of " + cut + " digits", y.web(whole.length() - 3 + cut), cut == 0 ? -1 : 2);
      edges.due("its worth", y.spare(0), cut == 0 ? much[0] : -much[cut]);
    }
    PromiseWeb x = new PromiseWeb();
    Check.feed(x, text);
    x.web(text.length());
    edges.refused("what is behind n is gone too", x, x.web(1), -1, 2);
    edges.refused("web(0) of the empty one", x, x.web(0), -1, 4);
    edges.due("its place", x.where(), 0);
  }

  /** A WEB with a year gone by, an IMAGE and three ACTS that can be undone. */
  private PromiseWeb used() {
    PromiseWeb x = edges.web(THREADS + "offer a b strong 1 costs 1;load a b 1");
    x.year();
    x.image();
    x.snap(0);
    x.spin(0);
    return x;
  }

  private void webFromNow() {
    edges.promise(3, "are the WEB from now on (no year gone by; nothing to undo, no IMAGES): how many nails");
    PromiseWeb x = used();
    edges.due("years, ACTS, IMAGES", x.size(9) * 100 + x.size(10) * 10 + x.size(11), 131);
    edges.due("another WEB", Check.tell(x, WEB + "nail a"), 1);
    edges.due("years, ACTS, IMAGES of it", x.size(9) * 100 + x.size(10) * 10 + x.size(11), 0);
    for (int what = 3; what <= 12; what++) edges.due("size(" + what + ")", x.size(what), 0);
    edges.refused("undo()", x, x.undo(), false, 6);
    edges.refused("back(0)", x, x.back(0), false, 1);
    edges.refused("thread(0, 0)", x, x.thread(0, 0), -1, 1);
    x = used();
    edges.due("the same WEB again", Check.tell(x, THREADS + "offer a b strong 1 costs 1;load a b 1"), 2);
    edges.same("as a new one", Edges.allOf(x), Edges.allOf(edges.web(THREADS + "offer a b strong 1 costs 1;load a b 1")));
    edges.due("seven nails", Check.tell(new PromiseWeb(), WEB + Edges.times(6, "nail #;") + "nail zz"), 7);
  }

  /** Each of these is told behind each other one, and then all is as it is for an object that was told only the latter. */
  private void webBehindWeb() {
    edges.promise(3, "are the WEB from now on (no year gone by; nothing to undo, no IMAGES): how many nails");
    String many = TextEdges.WEB + Edges.times(7, "nail n#;") + Edges.times(7, "thread # fading nk nl strong 50 step 20;");
    String[] texts = {
        WEB + "nail a", NAILS + "offer a b strong 2 costs 1",
        THREADS + "offer b a strong 3 costs 7;load a b 9;clash t u;unsure t;hair t t brown",
        many + "clash k l;clash k m;clash k n;clash k o;clash k p;clash k q;clash l m;clash q p;offer nl nk strong 1 costs 1",
        many + "load nk nl 1;load nk nl 2;load nk nl 300;load nk nl 4;offer nk nl strong 99 costs 99;offer nk nl strong 9 costs 9",
        many + "unsure k;unsure l;unsure m;unsure n;unsure o;" + Edges.times(6, "hair q q brown;") + "offer nk nl strong 9 costs 9"};
    for (String before : texts) {
      for (String text : texts) {
        PromiseWeb x = edges.web(before);
        moved(x);
        edges.due("'" + text + "' behind '" + before + "'", Check.tell(x, text), edges.web(text).size(2));
        PromiseWeb twin = edges.web(text);
        edges.same("'" + text + "' behind '" + before + "' is as alone", moved(x) + Edges.webOf(x), moved(twin) + Edges.webOf(twin));
      }
    }
  }

  /** ACTS of each sort, and what is then. */
  private static String moved(PromiseWeb x) {
    StringBuilder all = new StringBuilder("judge " + x.judge() + " test " + x.test() + " likeliest " + x.likeliest() + " mend " + x.mend());
    int told = x.size(3);
    all.append(" brown ").append(x.brown(told - 1, 0, false)).append(" by ").append(x.brown(told - 1, 0, true));
    all.append(" image ").append(x.image()).append(" year ").append(x.year()).append(" spin ").append(x.spin(0));
    int last = x.size(3) - 1;
    for (int what = 0; what < 7; what++) all.append(' ').append(x.thread(last, what));
    all.append(" in a year ").append(x.strong(last, 1)).append(" snap ").append(x.snap(last)).append(" darn ").append(x.darn(0));
    return all.append(" clashes ").append(x.clashes(0)).append(" borne ").append(x.borne(0)).toString();
  }

  private void numberOfBytes() {
    edges.promise(3, "NONE: 2 (THE TAPE stays)");
    Supplier<PromiseWeb> made = () -> {
      PromiseWeb x = used();
      Check.feed(x, WEB + "nail a; nail b; nail c");
      return x;
    };
    edges.due("bytes", made.get().size(12), 60);
    for (int n : new int[] {-1, 61, 900, 901}) edges.leavesAll("web(" + n + ")", made, x -> x.web(n), -1, 2);
    for (int n : Edges.FAR) edges.leavesAll("web(" + n + ")", made, x -> x.web(n), -1, 2);
    PromiseWeb x = made.get();
    x.web(61);
    edges.due("web(60) then", x.web(60), 3);
    edges.leavesAll("web(1) of an empty TAPE", PromiseWeb::new, y -> y.web(1), -1, 2);
    edges.leavesAll("web(-1) of an empty TAPE", PromiseWeb::new, y -> y.web(-1), -1, 2);
    PromiseWeb full = new PromiseWeb();
    Check.feed(full, " ".repeat(900));
    edges.refused("web(901)", full, full.web(901), -1, 2);
    edges.due("THE TAPE", full.size(12), 900);
    edges.refused("web(900)", full, full.web(900), -1, 4);
  }

  private void faultStays() {
    edges.promise(3, "4 (the WEB stays)");
    String[] texts = {"", " ", "foo", "nail a", WEB, "web slips 5 clerks 5", "web slips 101", WEB + "nail a;nail a", WEB + "nail a;load a b 1",
        WEB + Edges.times(8, "nail #;") + "nail z", THREADS + "load a b 1;offer a b strong 1 costs 1;unsure t;hair t t brown;clash t t"};
    for (String text : texts) edges.faultLeavesWeb(this::used, text);
    for (String text : texts) edges.faultLeavesWeb(PromiseWeb::new, text);
    PromiseWeb x = used();
    Check.tell(x, THREADS + "load a b 99;clash t t");
    edges.due("undo() then", x.undo(), true);
    edges.due("the load as it was", x.spare(0), -1);
  }

  private void fault() {
    edges.promise(4, "The FAULT of the latest web() not refused by 2; 0 without one");
    PromiseWeb x = new PromiseWeb();
    edges.due("without one", x.fault(), 0);
    String[] texts = {"!", NAILS + "load a c 1", WEB + "nail a;nail a", "web slips 101", WEB + Edges.times(8, "nail #;"), "nail a"};
    for (int number = 1; number <= 6; number++) {
      Check.tell(x, texts[number - 1]);
      edges.due("fault()", x.fault(), number);
      edges.due("again", x.fault(), number);
      x.web(-1);
      x.web(1);
      edges.due("behind a web() refused by 2", x.fault(), number);
      x.undo();
      x.feed(0, 0, 0, 0, 0);
      x.holding(0);
      edges.due("behind other calls", x.fault(), number);
      x.web(0);
      edges.due("behind web(0)", x.fault(), 1);
    }
    Check.tell(x, NAILS + "nail c");
    edges.due("without a FAULT", x.fault(), 0);
    x.web(1);
    edges.due("without a FAULT, behind a web() refused by 2", x.fault(), 0);
    x.thread(0, 0);
    edges.due("another refusal is no FAULT", x.fault(), 0);
  }

  private PromiseWeb faulty() {
    PromiseWeb x = edges.web(NAILS + "thread t kept a b strong 1 step 0");
    Check.tell(x, "web slips 5 clerks 5;nail !");
    return x;
  }

  private void where() {
    edges.promise(5, "Its place, if the latest call that may be refused was by 4; NONE else");
    PromiseWeb x = new PromiseWeb();
    edges.due("of a new one", x.where(), -1);
    x.web(0);
    edges.due("the first place", x.where(), 0);
    Check.tell(x, " ".repeat(900));
    edges.due("the last place", x.where(), 900);
    x = faulty();
    edges.due("its place", x.where(), 26);
    edges.due("asked again", x.where(), 26);
    x.fault();
    x.trouble();
    x.size(12);
    x.size(99);
    Check.led(x, 0);
    Check.led(x, -1);
    x.feed(0, 0, 0, 0, 0);
    edges.due("behind calls that can't be refused by a number", x.where(), 26);
    x.web(21);
    edges.due("behind one refused by 2", x.where(), -1);
    edges.due("behind one that isn't refused", whereBehindAnswer(), -1);
    edges.due("behind a WEB", whereBehindWeb(), -1);
    PromiseWeb y = faulty();
    edges.refused("behind one refused by 1", y, y.thread(1, 0), -1, 1);
    y = faulty();
    edges.refused("behind one refused by 5", y, y.darn(0), -1, 5);
    y = faulty();
    edges.refused("behind one refused by 6", y, y.undo(), false, 6);
  }

  private int whereBehindAnswer() {
    PromiseWeb x = faulty();
    x.holding(0);
    return x.where();
  }

  private int whereBehindWeb() {
    PromiseWeb x = faulty();
    Check.tell(x, NAILS + "nail c");
    return x.where();
  }
}
