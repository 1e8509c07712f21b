import java.util.ArrayList;
import java.util.Arrays;
import java.util.List;
import java.util.function.ToIntFunction;

/** Terms I: TOKENS, LINES, bounds, rooms, NAMES. */
final class TextEdges {
  static final String WEB = "web slips 5 clerks 5;";
  static final String NAILS = WEB + "nail a;nail b;";
  static final String THREADS = NAILS + "thread t kept a b strong 5 step 0;thread u lied a b strong 5 step 1;";
  private static final String SEVEN = NAILS + Edges.times(7, "thread # kept a b strong 1 step 0;");
  private static final String[] RESERVED = {"web", "nail", "thread", "clash", "load", "offer", "unsure", "hair"};
  private final Edges edges;

  TextEdges(Edges edges) {
    this.edges = edges;
  }

  void all() {
    tape();
    blanks();
    words();
    wholes();
    semicolons();
    everyByte();
    webLine();
    linesBroken();
    nailLines();
    threadLines();
    clashLines();
    loadLines();
    offerLines();
    unsureLines();
    hairLines();
    names();
  }

  private void tape() {
    edges.terms("I. THE TEXT of a WEB (THE TAPE has 900 bytes");
    String least = "web slips 0 clerks 0;nail a";
    edges.good(least + " ".repeat(900 - least.length()), 1);
    String full = " ".repeat(900 - least.length()) + least;
    edges.good(full, 1);
    edges.fault(" ".repeat(900) + "@", 1);
    edges.fault(" ".repeat(899) + "@;", 1);
    edges.fault("web slips 0 clerks 0" + " ".repeat(880) + "@", 6);
    PromiseWeb x = new PromiseWeb();
    Check.feed(x, full);
    edges.due("size(12), full", x.size(12), 900);
    edges.due("web(899), the last NAME cut off", x.web(899), -1);
    edges.due("fault()", x.fault(), 1);
    edges.due("where()", x.where(), 899);
  }

  private void blanks() {
    edges.terms("blanks, 32, part TOKENS and mean nothing else");
    edges.good("   web   slips 0    clerks 0  ;  nail    a   ", 1);
    edges.good("web slips0clerks0;nail a;nail b;load a b1", 2);
    edges.fault("@webslips 0 clerks 0;nail a", 1);
    edges.fault("web @sli ps 0 clerks 0;nail a", 1);
    edges.fault("web slips 1 @0 clerks 0;nail a", 1);
    edges.fault("web slips 0 clerks 0;nail a @b", 1);
    edges.fault("web slips 0 clerks 0;@nai l a", 1);
  }

  private void words() {
    edges.terms("TOKENS: WORDS of 1 to 8 small letters that stand together");
    edges.good(WEB + "nail a", 1);
    edges.good(WEB + "nail abcdefg", 1);
    edges.good(WEB + "nail abcdefgh", 1);
    edges.fault(WEB + "nail @abcdefghi", 1);
    edges.fault(WEB + "nail @" + "a".repeat(26), 1);
    edges.good(WEB + "nail zzzzzzzz;nail zzzzzzzy;nail yzzzzzzz;nail zzzzzzz;nail z;nail zz", 6);
    edges.fault(WEB + "nail zzzzzzzz;nail @zzzzzzzz", 3);
    edges.fault(WEB + "nail a;nail b;load a @bbbbbbbbb 5", 1);
    edges.fault(WEB + "@nailaaaaa", 1);
    edges.fault(WEB + "nail @A", 1);
    edges.fault(WEB + "nail @Z", 1);
    edges.fault(WEB + "nail a@B", 1);
  }

  private void wholes() {
    edges.terms("WHOLES of 1 to 3 digits that do");
    for (String five : new String[] {"5", "05", "005"}) {
      String text = "web slips " + five + " clerks 0;nail a";
      edges.good(text, 1);
      edges.due("size(0) of '" + text + "'", edges.web(text).size(0), 5);
    }
    edges.fault("web slips @0005 clerks 0;nail a", 1);
    edges.fault("web slips @1000 clerks 0;nail a", 1);
    edges.fault("web slips @" + "9".repeat(30) + " clerks 0;nail a", 1);
    edges.fault("web slips @4294967296 clerks 0;nail a", 1);
    edges.fault("web slips @-1 clerks 0;nail a", 1);
    edges.fault("web slips 5@.0 clerks 0;nail a", 1);
  }

  private void semicolons() {
    edges.terms("single ones of ;): LINE {; LINE}. LINE, one of:");
    edges.good(WEB + "nail a;nail b", 2);
    edges.fault("@;" + WEB + "nail a", 1);
    edges.fault(WEB + "@;nail a", 1);
    edges.fault(WEB + "nail a;@;nail b", 1);
    edges.fault(WEB + "nail a;@", 1);
    edges.fault(WEB + "nail a;  @", 1);
    edges.fault("web slips 5 clerks 5 @nail a", 1);
    edges.fault(WEB + "nail a @nail b", 1);
    edges.fault(WEB + "nail @;nail b", 1);
    edges.fault("@", 1);
    edges.fault("   @", 1);
    edges.fault("@;", 1);
  }

  /** Each byte behind a NAME, and each as the first of all. */
  private void everyByte() {
    edges.terms("1 FORM: the first byte that begins no TOKEN, or TOKEN with which no WEB goes on (the end: its place)");
    String head = WEB + "nail a";
    for (int b = 0; b < 256; b++) {
      String text = head + (char) b + ";nail b";
      boolean letter = b >= 'a' && b <= 'z';
      if (b == ' ' || letter) edges.good(text, 2);
      else edges.faultAt(text, 1, b == ';' ? head.length() + 1 : head.length());
      String used = NAILS + "load a ";
      if (b != ' ' && !letter) edges.faultAt(used + (char) b + " 1", 1, used.length());
      String first = (char) b + WEB + "nail a";
      if (b == ' ') edges.good(first, 1);
      else edges.faultAt(first, 1, 0);
    }
  }

  private void webLine() {
    edges.terms("web slips WHOLE clerks WHOLE (0 .. 100 in a hundred each), ahead of all others");
    bounds("web slips # clerks 0;nail a", 0, 100, x -> x.size(0));
    bounds("web slips 0 clerks #;nail a", 0, 100, x -> x.size(1));
    edges.good("web slips 100 clerks 100;nail a", 1);
    edges.fault("@nail a;web slips 5 clerks 5", 6);
    edges.fault("web @clerks 5 slips 5;nail a", 1);
    edges.terms("6 LACKS: any LINE ahead of the web; at its WORD; at the end: no nail.");
    for (String word : RESERVED) {
      if (!word.equals("web")) edges.fault("  @" + word + " zz 999 !", 6);
    }
    edges.fault("@hair", 6);
    edges.fault("web slips 5 clerks 5@", 6);
    edges.fault("web slips 5 clerks 5   @", 6);
    edges.fault("web slips 5 clerks 5;@", 1);
    edges.fault("web slips 5 clerks@", 1);
    edges.good("web slips 5 clerks 5;nail a", 1);
  }

  /** A WHOLE from least to most: at its bounds, inside, one outside, with too many digits; its value is what is told then. */
  private void bounds(String pattern, int least, int most, ToIntFunction<PromiseWeb> value) {
    for (int good : new int[] {least, least + 1, most - 1, most}) {
      String text = pattern.replace("#", "" + good);
      edges.due("'" + text + "'", value.applyAsInt(edges.web(text)), good);
    }
    int place = pattern.indexOf('#');
    if (least > 0) edges.faultAt(pattern.replace("#", "" + (least - 1)), 4, place);
    if (least > 0) edges.faultAt(pattern.replace("#", "000"), 4, place);
    edges.faultAt(pattern.replace("#", "" + (most + 1)), 4, place);
    edges.faultAt(pattern.replace("#", "999"), 4, place);
    edges.faultAt(pattern.replace("#", "1000"), 1, place);
    edges.faultAt(pattern.replace("#", "0001"), 1, place);
    edges.faultAt(pattern.replace("#", "-1"), 1, place);
  }

  /** Each LINE cut off behind each of its TOKENS, with each of them replaced, and with one too many. */
  private void linesBroken() {
    edges.terms("TOKEN with which no WEB goes on (the end: its place)");
    String[] lines = {"K:web K:slips W:5 K:clerks W:5", "K:nail N:c", "K:thread N:v K:kept N:a N:b K:strong W:1 K:step W:0", "K:clash N:t N:u",
        "K:load N:a N:b W:1", "K:offer N:a N:b K:strong W:1 K:costs W:0", "K:unsure N:t", "K:hair N:t N:u K:clear"};
    for (String line : lines) {
      String head = line.startsWith("K:web") ? "" : THREADS;
      String[] tokens = line.split(" ");
      String before = head;
      for (int i = 0; i < tokens.length; i++) {
        String sort = tokens[i].substring(0, 2);
        if (i > 0) edges.faultAt(before, 1, before.length());
        for (String other : unfit(sort, i)) edges.faultAt(before + other + " ", 1, before.length());
        before += tokens[i].substring(2) + " ";
      }
      for (String more : new String[] {"zz", "7", "nail", "!"}) edges.faultAt(before + more, 1, before.length());
    }
  }

  /** TOKENS that can't stand where one of a sort (K: a certain WORD, N: a NAME, W: a WHOLE) must. */
  private static List<String> unfit(String sort, int at) {
    List<String> all = new ArrayList<>(List.of(";", "abcdefghi", "1000", "!"));
    if (sort.equals("W:")) all.add("zz");
    else all.add("7");
    if (sort.equals("K:")) all.add("zz");
    if (sort.equals("N:")) all.addAll(Arrays.asList(RESERVED));
    if (sort.equals("W:") || at > 0 && sort.equals("K:")) all.addAll(Arrays.asList(RESERVED));
    return all;
  }

  /** As many LINES of a sort as there is room for, one less, and one more, which is a FAULT at its WORD. */
  private void room(String head, List<String> lines, String more, int what) {
    int most = lines.size();
    for (int n = most - 1; n <= most; n++) {
      PromiseWeb x = edges.web(head + String.join(";", lines.subList(0, n)) + (n == 0 ? "nail z" : ""));
      edges.due("size(" + what + ") of " + n, x.size(what), n);
    }
    String full = head + String.join(";", lines) + ";";
    edges.terms("5 MANY: a LINE more of its sort than there is room for, at its first WORD.");
    edges.faultAt(full + more, 5, full.length());
    edges.faultAt(full + "  " + more + ";nail zz", 5, full.length() + 2);
    String word = more.substring(0, more.indexOf(' '));
    edges.faultAt(full + word, 5, full.length());
    edges.faultAt(full + word + " !", 5, full.length());
  }

  private static List<String> alike(int n, String line) {
    return Arrays.asList(Edges.times(n, line + ";").split(";"));
  }

  private void nailLines() {
    edges.terms("nail NAME (up to 7)");
    room(WEB, alike(7, "nail #"), "nail zz", 2);
  }

  private void threadLines() {
    edges.terms("or thread NAME KIND NAIL NAIL strong WHOLE step WHOLE");
    PromiseWeb x = edges.web(NAILS + "thread v kept b a strong 3 step 4");
    int[] row = {0, 1, 0, 3, 4, 0, 0};
    for (int what = 0; what < 7; what++) edges.due("thread(0, " + what + ")", x.thread(0, what), row[what]);
    edges.terms("(KIND: kept, fading, proving, or lied");
    String[] kinds = {"kept", "fading", "proving", "lied"};
    for (int kind = 0; kind < 4; kind++) edges.due(kinds[kind], edges.web(NAILS + "thread v " + kinds[kind] + " a b strong 1 step 1").thread(0, 0), kind);
    for (String none : new String[] {"kep", "keptt", "lie", "liedd", "fade", "prove", "brown", "strong"})
      edges.fault(NAILS + "thread v @" + none + " a b strong 1 step 1", 1);
    edges.terms("unlike nails; 1 .. 99; 0 .. 20; up to 7)");
    edges.fault(NAILS + "thread v kept a @a strong 1 step 1", 3);
    edges.fault(NAILS + "thread v kept b @b strong 1 step 1", 3);
    edges.good(NAILS + "thread v kept b a strong 1 step 1;thread w kept a b strong 1 step 1", 2);
    bounds(NAILS + "thread v kept a b strong # step 0", 1, 99, y -> y.thread(0, 3));
    bounds(NAILS + "thread v fading a b strong 99 step #", 0, 20, y -> y.thread(0, 4));
    room(NAILS, alike(7, "thread # kept a b strong 1 step 0"), "thread zz kept a b strong 1 step 0", 3);
  }

  private void clashLines() {
    edges.terms("clash THREAD THREAD (unlike; once in whatever order; up to 8)");
    edges.good(THREADS + "clash t u", 2);
    edges.good(THREADS + "clash u t", 2);
    edges.fault(THREADS + "clash t @t", 3);
    edges.fault(THREADS + "clash t u;clash t @u", 3);
    edges.fault(THREADS + "clash t u;clash u @t", 3);
    edges.good(SEVEN + "clash k l;clash k m;clash l m", 2);
    edges.fault(SEVEN + "clash k l;clash k m;clash m @k", 3);
    List<String> eight = List.of("clash k l", "clash k m", "clash k n", "clash k o", "clash k p", "clash k q", "clash l m", "clash q p");
    room(SEVEN, eight, "clash l n", 4);
    edges.faultAt(SEVEN + String.join(";", eight) + ";clash k l", 5, (SEVEN + String.join(";", eight) + ";").length());
  }

  private void loadLines() {
    edges.terms("load NAIL NAIL WHOLE (unlike; 1 .. 300; up to 4)");
    edges.fault(NAILS + "load a @a 1", 3);
    edges.good(NAILS + "load b a 1;load b a 1;load a b 1", 2);
    bounds(NAILS + "load a b #", 1, 300, x -> -x.spare(0));
    room(NAILS, alike(4, "load a b 1"), "load a b 1", 5);
  }

  private void offerLines() {
    edges.terms("or offer NAIL NAIL strong WHOLE costs WHOLE (unlike; 1 .. 99; 0 .. 99; up to 5)");
    edges.fault(NAILS + "offer a @a strong 1 costs 1", 3);
    edges.good(NAILS + "offer b a strong 1 costs 1;offer b a strong 1 costs 1", 2);
    bounds(NAILS + "offer a b strong # costs 0", 1, 99, x -> x.strong(x.spin(0), 0));
    bounds(NAILS + "load a b 1;offer a b strong 1 costs #", 0, 99, x -> x.mendCost());
    room(NAILS, alike(5, "offer a b strong 1 costs 1"), "offer a b strong 1 costs 1", 6);
  }

  private void unsureLines() {
    edges.terms("unsure THREAD (of which nobody knows whether it is lied on; each once; up to 5)");
    edges.good(THREADS + "unsure t", 2);
    edges.good(THREADS + "unsure u;unsure t", 2);
    edges.fault(THREADS + "unsure t;unsure @t", 3);
    edges.fault(THREADS + "unsure t;unsure u;unsure @t", 3);
    List<String> five = List.of("unsure k", "unsure l", "unsure q", "unsure p", "unsure o");
    room(SEVEN, five, "unsure m", 7);
    edges.faultAt(SEVEN + String.join(";", five) + ";unsure k", 5, (SEVEN + String.join(";", five) + ";").length());
  }

  private void hairLines() {
    edges.terms("or hair THREAD THREAD HOW (they may be alike; HOW: brown, or clear; up to 6)");
    edges.good(THREADS + "hair t t brown", 2);
    edges.good(THREADS + "hair t u clear;hair t u clear;hair u t brown", 2);
    for (String none : new String[] {"brow", "browns", "clea", "clears", "kept", "lied"}) edges.fault(THREADS + "hair t u @" + none, 1);
    edges.due("told clear, not so", edges.web(THREADS + "hair u t clear").judge(), 0);
    edges.due("told brown, so", edges.web(THREADS + "hair u t brown").judge(), -2);
    room(THREADS, alike(6, "hair t t clear"), "hair t t clear", 8);
  }

  private void names() {
    edges.terms("NAMES are WORDS but web, nail, thread, clash, load, offer, unsure, hair");
    for (String word : RESERVED) {
      edges.fault(WEB + "nail @" + word, 1);
      edges.fault(NAILS + "thread @" + word + " kept a b strong 1 step 0", 1);
      edges.fault(NAILS + "load @" + word + " b 1", 1);
      edges.fault(THREADS + "clash t @" + word, 1);
      edges.good(WEB + "nail " + word + "s;nail " + word.substring(1) + ";nail x" + word, 3);
    }
    for (String word : new String[] {"slips", "clerks", "strong", "step", "costs", "kept", "fading", "proving", "lied", "brown", "clear"})
      edges.good(WEB + "nail " + word + ";nail b;thread c kept " + word + " b strong 1 step 0;load b " + word + " 1;hair c c brown", 2);
    edges.terms("each told once, ahead of its use.");
    String fourteen = WEB + Edges.times(7, "nail n#;") + Edges.times(7, "thread t# kept nk nq strong 1 step 0;");
    edges.good(fourteen + "clash tk tq;unsure tq;hair tq tq brown;load nq nk 1;offer nk nq strong 1 costs 1", 7);
    String last = WEB + Edges.times(6, "nail n#;") + Edges.times(7, "thread t# kept nk nl strong 1 step 0;");
    edges.good(last + "nail zz;load zz nk 1", 7);
    edges.fault(last + "nail zz;load zz @zz 1", 3);
    edges.fault(last + "load nk @zz 1;nail zz", 2);
    edges.fault(last + "nail @tq", 3);
    edges.fault(WEB + "nail a;nail @a", 3);
    edges.fault(NAILS + "thread @a kept a b strong 1 step 0", 3);
    edges.fault(THREADS + "nail @u", 3);
    edges.fault(THREADS + "thread @u kept a b strong 1 step 0", 3);
    edges.fault(WEB + "nail a;load a @b 1;nail b", 2);
    edges.fault(WEB + "nail a;thread t kept @b a strong 1 step 0;nail b", 2);
    edges.fault(THREADS + "clash t @v;thread v kept a b strong 1 step 0", 2);
    edges.fault(NAILS + "thread v kept @v a strong 1 step 0", 2);
  }
}
