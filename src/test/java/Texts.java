import java.util.ArrayList;
import java.util.List;
import java.util.Random;

/** Random texts of WEBS, and ways to spoil them; the same for the same number. */
final class Texts {
  private static final String[] NAMES = {"a", "b", "cc", "kept", "brown", "strong", "slips", "abcdefgh", "z", "lied", "x", "y", "w", "step",
      "q", "costs"};
  private final Random random;

  Texts(Random random) {
    this.random = random;
  }

  int upTo(int most) {
    return random.nextInt(most + 1);
  }

  private int percent() {
    int[] often = {0, 100, 50, 25, 1, 20};
    return random.nextBoolean() ? often[upTo(5)] : upTo(100);
  }

  private String any(List<String> names) {
    return names.get(random.nextInt(names.size()));
  }

  private String two(List<String> names) {
    String one = any(names);
    String other = any(names);
    for (int i = 0; i < 100 && other.equals(one); i++) other = any(names);
    return one + " " + other;
  }

  /** Mostly without a FAULT. */
  String web() {
    List<String> lines = new ArrayList<>();
    List<String> nails = new ArrayList<>();
    List<String> threads = new ArrayList<>();
    lines.add("web slips " + percent() + " clerks " + percent());
    int named = 0;
    int most = random.nextInt(4) == 0 ? 7 : 1 + upTo(4);
    for (int i = 0; i < most; i++) {
      nails.add(NAMES[named++]);
      lines.add("nail " + nails.get(i));
    }
    String[] kinds = {"kept", "fading", "proving", "lied"};
    int strongest = random.nextBoolean() ? 4 : 99;
    int steps = random.nextBoolean() ? 3 : 20;
    if (most > 1) {
      for (int i = upTo(7); i > 0; i--) {
        threads.add(NAMES[named++]);
        lines.add("thread " + threads.get(threads.size() - 1) + " " + kinds[upTo(3)] + " " + two(nails) + " strong "
            + (1 + upTo(strongest - 1)) + " step " + upTo(steps));
      }
      for (int i = upTo(4); i > 0; i--) lines.add("load " + two(nails) + " " + (1 + upTo(strongest * 2)));
      for (int i = upTo(5); i > 0; i--)
        lines.add("offer " + two(nails) + " strong " + (1 + upTo(strongest - 1)) + " costs " + upTo(random.nextBoolean() ? 3 : 99));
    }
    addOfThreads(lines, threads);
    return String.join(random.nextInt(3) == 0 ? " ; " : ";", lines);
  }

  private void addOfThreads(List<String> lines, List<String> threads) {
    if (threads.isEmpty()) return;
    List<String> seen = new ArrayList<>();
    for (int i = threads.size() > 1 ? upTo(8) : 0; i > 0; i--) {
      String pair = two(threads);
      String[] p = pair.split(" ");
      if (seen.contains(pair) || seen.contains(p[1] + " " + p[0])) continue;
      seen.add(pair);
      lines.add("clash " + pair);
    }
    List<String> open = new ArrayList<>(threads);
    for (int i = Math.min(upTo(5), open.size()); i > 0; i--) lines.add("unsure " + open.remove(random.nextInt(open.size())));
    for (int i = upTo(6); i > 0; i--) lines.add("hair " + any(threads) + " " + any(threads) + (random.nextBoolean() ? " brown" : " clear"));
  }

  /** One spoiling, of a byte, of a TOKEN or of a LINE. */
  String spoilt(String text) {
    if (text.isEmpty()) return text;
    switch (upTo(6)) {
      case 0:
        return spoiltByte(text);
      case 1:
        return text.substring(0, upTo(text.length()));
      case 2:
      case 3:
        return spoiltToken(text);
      default:
        return spoiltLine(text);
    }
  }

  private String spoiltByte(String text) {
    String signs = " ;a0zA{`/:<\n\t" + (char) 225 + (char) 160 + (char) 187 + (char) 0 + (char) 255;
    int at = random.nextInt(text.length());
    String sign = "" + signs.charAt(random.nextInt(signs.length()));
    return text.substring(0, at) + (random.nextBoolean() ? sign : "") + text.substring(at + upTo(1));
  }

  private String spoiltToken(String text) {
    String[] odd = {"web", "nail", "thread", "clash", "load", "offer", "unsure", "hair", "a", "b", "cc", "kept", "brown", "0", "99", "100",
        "101", "300", "301", "999", "1000", "007", "20", "21", ";", "abcdefghi", "abcdefgh", "x", "y", "clear", "strong"};
    String[] tokens = text.split(" ", -1);
    int at = random.nextInt(tokens.length);
    String other = random.nextInt(3) == 0 ? tokens[random.nextInt(tokens.length)] : odd[random.nextInt(odd.length)];
    int way = upTo(3);
    if (way == 0) tokens[at] = other;
    if (way == 1) tokens[at] = tokens[at] + " " + other;
    if (way == 2) tokens[at] = "";
    if (way == 3 && tokens[at].contains(";")) tokens[at] = other + tokens[at].substring(tokens[at].indexOf(';'));
    if (way == 3 && !tokens[at].contains(";")) tokens[at] = other;
    return String.join(" ", tokens);
  }

  private String spoiltLine(String text) {
    List<String> lines = new ArrayList<>(List.of(text.split(";", -1)));
    int at = random.nextInt(lines.size());
    String line = lines.get(at);
    switch (upTo(3)) {
      case 0:
        lines.remove(at);
        break;
      case 1:
        lines.add(random.nextInt(lines.size() + 1), line);
        break;
      case 2:
        for (int i = 0; i < 8; i++) lines.add(at, line);
        break;
      default:
        lines.set(at, lines.get(lines.size() - 1));
        lines.set(lines.size() - 1, line);
    }
    return String.join(";", lines);
  }
}
