import java.util.function.Supplier;
import java.util.function.ToLongFunction;

/** Holds the class against one sentence of the document at a time. */
final class Edges {
  static final int[] FAR = {Integer.MIN_VALUE, Integer.MIN_VALUE + 1, -1000, 1000, Integer.MAX_VALUE - 1, Integer.MAX_VALUE};
  private final Document document;
  private final Check check = new Check("EdgesTest");
  private String sentence = "";

  Edges(Document document) {
    this.document = document;
  }

  /** What comes next holds the class against these words of a promise. */
  void promise(int number, String words) {
    sentence = "promise " + number + ", \"" + words + "\": ";
    check.due(sentence + "stands in the document", document.quote("" + number, words), true);
  }

  /** What comes next holds the class against these words of the Terms. */
  void terms(String words) {
    sentence = "Terms, \"" + words + "\": ";
    check.due(sentence + "stands in the document", document.quote(Document.TERMS, words), true);
  }

  void whatItIs(String words) {
    sentence = "What it is, \"" + words + "\": ";
    check.due(sentence + "stands in the document", document.quote(Document.WHAT_IT_IS, words), true);
  }

  void due(String call, long got, long want) {
    check.due(sentence + call, got, want);
  }

  void due(String call, boolean got, boolean want) {
    check.due(sentence + call, got, want);
  }

  void same(String call, String got, String want) {
    check.due(sentence + call + (got.equals(want) ? "" : ": " + got + " is not " + want), got.equals(want), true);
  }

  /** A share's upper and lower WHOLE. */
  void share(String call, long gotUpper, long gotLower, long upper, long lower) {
    due(call + ", upper", gotUpper, upper);
    due(call + ", lower", gotLower, lower);
  }

  /** A call's answer, TROUBLE behind it, and that it isn't told as a FAULT. */
  void refused(String call, PromiseWeb x, long got, long answer, int trouble) {
    due(call, got, answer);
    due(call + ", then trouble()", x.trouble(), trouble);
    if (trouble != 4) due(call + ", then where()", x.where(), PromiseWeb.NONE);
  }

  void refused(String call, PromiseWeb x, boolean got, boolean answer, int trouble) {
    refused(call, x, got ? 1 : 0, answer ? 1 : 0, trouble);
  }

  /** An answer that isn't refused. */
  void answers(String call, PromiseWeb x, ToLongFunction<PromiseWeb> called, long want) {
    refused(call, x, called.applyAsLong(x), want, 0);
  }

  /** A new object with a WEB. */
  PromiseWeb web(String text) {
    PromiseWeb x = new PromiseWeb();
    check.due(sentence + "without a FAULT: " + text, Check.tell(x, text) > 0, true);
    return x;
  }

  /** A text without a FAULT. */
  void good(String text, int nails) {
    PromiseWeb x = new PromiseWeb();
    due("web() of '" + text + "'", Check.tell(x, text), nails);
    due("trouble() behind '" + text + "'", x.trouble(), 0);
    due("fault() behind '" + text + "'", x.fault(), 0);
    due("where() behind '" + text + "'", x.where(), PromiseWeb.NONE);
    due("size(2) behind '" + text + "'", x.size(2), nails);
  }

  void faultAt(String text, int number, int place) {
    PromiseWeb x = new PromiseWeb();
    due("web() of '" + text + "'", Check.tell(x, text), PromiseWeb.NONE);
    due("trouble() behind '" + text + "'", x.trouble(), 4);
    due("fault() behind '" + text + "'", x.fault(), number);
    due("where() behind '" + text + "'", x.where(), place);
    due("size(2) behind '" + text + "'", x.size(2), 0);
  }

  /** A text with a FAULT at the place of the sign @, which isn't part of it. */
  void fault(String marked, int number) {
    faultAt(marked.replace("@", ""), number, marked.indexOf('@'));
  }

  /** A call that is refused: its answer, TROUBLE, and that all else is as it is for a twin which wasn't called. */
  void leavesAll(String call, Supplier<PromiseWeb> made, ToLongFunction<PromiseWeb> called, long answer, int trouble) {
    PromiseWeb x = made.get();
    refused(call, x, called.applyAsLong(x), answer, trouble);
    same(call + " leaves all as it was", allOf(x), allOf(made.get()));
  }

  /** The same of a text with a FAULT, which takes THE TAPE away. */
  void faultLeavesWeb(Supplier<PromiseWeb> made, String text) {
    PromiseWeb x = made.get();
    x.web(0);
    refused("web() of '" + text + "'", x, Check.tell(x, text), PromiseWeb.NONE, 4);
    due("THE TAPE behind '" + text + "'", x.size(12), 0);
    PromiseWeb twin = made.get();
    twin.web(0);
    same("'" + text + "' leaves the WEB", webOf(x), webOf(twin));
  }

  /** How often a test's object is called is kept below 512: this makes some 300 calls of the biggest web. */
  static String allOf(PromiseWeb x) {
    StringBuilder all = new StringBuilder("fault " + x.fault() + " tape " + x.size(12));
    int bytes = x.size(12);
    all.append(webOf(x)).append(" web ").append(x.web(bytes)).append(' ').append(x.fault()).append(' ').append(x.where());
    return all.append(' ').append(nowOf(x)).toString();
  }

  /** All but THE TAPE: what is NOW, what UNDO leads to, and what IMAGES hold. */
  static String webOf(PromiseWeb x) {
    StringBuilder all = new StringBuilder(nowOf(x));
    for (int i = 0; i < 17 && x.undo(); i++) all.append(" undone ").append(nowOf(x));
    for (int i = 0; i < 4 && x.back(i); i++) all.append(" back ").append(nowOf(x));
    return all.toString();
  }

  private static String nowOf(PromiseWeb x) {
    StringBuilder now = new StringBuilder("sizes");
    for (int what = 0; what < 12; what++) now.append(' ').append(x.size(what));
    now.append(" threads");
    for (int t = 0; t < x.size(3); t++)
      now.append(' ').append(x.thread(t, 0)).append(',').append(x.thread(t, 5)).append(',').append(x.strong(t, 0)).append(',').append(x.strong(t, 1));
    return now.append(" fits ").append(x.fits()).append(" rue ").append(x.rue()).toString();
  }

  /** A LINE as often, with the letters from k on for #. */
  static String times(int n, String line) {
    StringBuilder all = new StringBuilder();
    for (int i = 0; i < n; i++) all.append(line.replace("#", "" + (char) ('k' + i)));
    return all.toString();
  }

  void finish() {
    for (String rest : document.left()) check.due("words of the document that no test quotes: " + rest, false, true);
    check.due("promises in the document", document.promises(), 57);
    check.finish();
  }
}
