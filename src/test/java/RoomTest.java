import java.lang.management.ManagementFactory;
import java.util.Random;

/** Any argument in any state is answered, the calls end, and none of them makes an object. */
public final class RoomTest {
  private static final int[] ODD = {Integer.MIN_VALUE, Integer.MIN_VALUE + 1, -65537, -1000, -64, -33, -32, -31, -2, -1, 0, 1, 2, 3, 4, 5, 6, 7, 8,
      9, 10, 13, 31, 32, 33, 59, 60, 61, 64, 255, 256, 800, 801, 900, 901, 65536, 65537, Integer.MAX_VALUE - 1, Integer.MAX_VALUE};
  private final Random random = new Random(3);
  private long sum;

  private int any() {
    int way = random.nextInt(8);
    return way == 0 ? random.nextInt() : way < 3 ? ODD[random.nextInt(ODD.length)] : random.nextInt(8);
  }

  private boolean coin() {
    return random.nextBoolean();
  }

  private void callBearing(PromiseWeb x, int way) {
    switch (way) {
      case 0: sum += x.thread(any(), any()); break;
      case 1: sum += x.nail(any(), any()); break;
      case 2: sum += x.strong(any(), any()); break;
      case 3: sum += x.breaksIn(any()); break;
      case 4: sum += x.holding(any()); break;
      case 5: sum += x.strongest(any()); break;
      case 6: sum += x.bears(any(), any(), any()); break;
      case 7: sum += x.cut(any(), any(), any()); break;
      case 8: sum += x.vital(any(), any(), any()); break;
      case 9: sum += x.needed(any(), any(), any()); break;
      case 10: sum += x.weakest(any()); break;
      case 11: sum += x.apart(any(), any(), any()); break;
      case 12: sum += x.parts(any()); break;
      case 13: sum += x.bridges(any()); break;
      case 14: sum += x.borne(any()); break;
      case 15: sum += x.fallsIn(any()); break;
      case 16: sum += x.spare(any()); break;
      case 17: sum += x.mend() + x.mendCost() + x.bestOffer(); break;
      case 18: sum += x.clashes(any()); break;
      default: sum += x.breakFew() + x.breakRued() + x.rue() + x.peaces();
    }
  }

  private void callOthers(PromiseWeb x, int way) {
    switch (way) {
      case 0: sum += x.fits() + x.fitAt(any()); break;
      case 1: sum += x.odds(any(), coin()); break;
      case 2: sum += x.likeliest() + x.test() + x.testLeaves() + x.judge(); break;
      case 3: sum += x.brown(any(), any(), coin()); break;
      case 4: sum += x.snaps(any(), any()); break;
      case 5: sum += x.snapsBy(any(), any()); break;
      case 6: sum += x.blows(any(), coin(), coin(), coin()); break;
      case 7: sum += x.rests(any()) + x.rest(any()); break;
      case 8: sum += x.bearOdds(any(), any(), any(), coin()); break;
      case 9: sum += x.mean(any(), any(), coin()); break;
      case 10: sum += x.years(any(), any()); break;
      case 11: sum += x.fallsBy(any(), any(), any()); break;
      case 12: sum += x.year(); break;
      case 13: sum += x.snap(any()) ? 1 : 0; break;
      case 14: sum += x.spin(any()); break;
      case 15: sum += x.darn(any()); break;
      case 16: sum += x.undo() ? 1 : 0; break;
      case 17: sum += x.image(); break;
      case 18: sum += x.back(any()) ? 1 : 0; break;
      case 19: sum += x.feed(random.nextInt(), any(), any(), any(), any()); break;
      case 20: sum += x.fault() + x.where() + x.trouble() + x.size(any()); break;
      default: if (random.nextInt(20) == 0) sum += x.web(any());
    }
  }

  private void call(PromiseWeb x) {
    if (coin()) callBearing(x, random.nextInt(20));
    else callOthers(x, random.nextInt(22));
  }

  public static void main(String[] args) {
    Check check = new Check("RoomTest");
    RoomTest room = new RoomTest();
    Texts texts = new Texts(new Random(5));
    var counter = (com.sun.management.ThreadMXBean) ManagementFactory.getThreadMXBean();
    long id = Thread.currentThread().getId();
    long most = 0;
    for (int run = 0; run < 2000; run++) {
      PromiseWeb x = new PromiseWeb();
      if (run % 10 != 0) Check.tell(x, texts.web());
      long before = counter.getThreadAllocatedBytes(id);
      for (int i = 0; i < 512; i++) room.call(x);
      long made = counter.getThreadAllocatedBytes(id) - before;
      // the first runs load classes
      if (run > 100) most = Math.max(most, made);
      for (int i = 0; i < 20; i++) Check.led(x, room.any());
      check.due("more than the 512 calls too", x.trouble() >= 0, true);
    }
    check.due("bytes made by 512 calls: " + most, most <= 4096, true);
    PromiseWeb x = new PromiseWeb();
    Check.tell(x, "web slips 0 clerks 0;nail a");
    for (int i = 0; i < 999; i++) x.year();
    check.due("999 years", x.size(9), 999);
    check.refused("48 no room for a year more", x, x.year(), -1, 3);
    check.finish();
  }
}
