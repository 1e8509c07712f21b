import java.util.Random;

/** Random texts, most of them spoilt, against Model's own reading. */
public final class FaultsTest {
  public static void main(String[] args) {
    Check check = new Check("FaultsTest");
    Random random = new Random(7);
    Texts texts = new Texts(random);
    PromiseWeb x = new PromiseWeb();
    int[] seen = new int[7];
    for (int i = 0; i < 100000; i++) {
      String text = texts.web();
      for (int spoils = random.nextInt(4); spoils > 0; spoils--) text = texts.spoilt(text);
      if (text.length() > 900) continue;
      Model m = Model.read(text);
      seen[m.fault]++;
      int nailsBefore = x.size(2);
      check.due("web: " + text, Check.tell(x, text), m.fault == 0 ? m.nails : -1);
      check.due("fault: " + text, x.fault(), m.fault);
      check.due("where: " + text, x.where(), m.fault == 0 ? -1 : m.place);
      check.due("trouble: " + text, x.trouble(), m.fault == 0 ? 0 : 4);
      check.due("nails: " + text, x.size(2), m.fault == 0 ? m.nails : nailsBefore);
    }
    for (int number = 0; number < 7; number++) check.due("enough texts of FAULT " + number, seen[number] > 300, true);
    check.finish();
  }
}
