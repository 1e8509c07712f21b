import java.util.NoSuchElementException;

/** Counts answers that are not the ones due, and tells a PromiseWeb its text. */
final class Check {
  private final String title;
  private int asked;
  private int wrong;

  Check(String title) {
    this.title = title;
  }

  void due(String call, long got, long want) {
    asked++;
    if (got != want) {
      wrong++;
      if (wrong <= 40) System.out.println(title + ": " + call + " answered " + got + ", due is " + want);
    }
  }

  void due(String call, boolean got, boolean want) {
    due(call, got ? 1 : 0, want ? 1 : 0);
  }

  /** A call's answer, and TROUBLE behind it. */
  void refused(String call, PromiseWeb x, long got, long want, int trouble) {
    due(call, got, want);
    due(call + ", trouble()", x.trouble(), trouble);
  }

  void refused(String call, PromiseWeb x, boolean got, boolean want, int trouble) {
    refused(call, x, got ? 1 : 0, want ? 1 : 0, trouble);
  }

  void finish() {
    System.out.println(title + ": " + asked + " answers, " + wrong + " not as due");
    if (wrong != 0) System.exit(1);
  }

  /** Twenty bytes a feed, blanks behind the text. */
  static void feed(PromiseWeb x, String text) {
    for (int i = 0; i < text.length(); i += 20) {
      int[] five = new int[5];
      for (int j = 0; j < 20; j++) {
        int c = i + j < text.length() ? text.charAt(i + j) & 255 : 32;
        five[j / 4] = five[j / 4] << 8 | c;
      }
      x.feed(five[0], five[1], five[2], five[3], five[4]);
    }
  }

  static int tell(PromiseWeb x, String text) {
    feed(x, text);
    return x.web(text.length());
  }

  /** NONE less one if led() throws. */
  static int led(PromiseWeb x, int i) {
    try {
      return x.led(i);
    } catch (NoSuchElementException e) {
      return -2;
    }
  }
}
