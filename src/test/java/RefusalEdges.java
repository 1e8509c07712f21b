import java.util.ArrayList;
import java.util.Arrays;
import java.util.List;
import java.util.function.Supplier;

/**
 * Each call that may be refused, with each of its numbers far below its bounds, one below, at both, one above and far
 * above, alone and together: its answer, TROUBLE, and that a refused one, and one that only asks, leaves all else as it was.
 */
final class RefusalEdges {
  private interface Call {
    long of(PromiseWeb x, int[] numbers);
  }

  /** What a number is, the TROUBLE if there is none such, and the most it may be. */
  private enum Number {
    NAIL(1), THREAD(1), LOAD(1), OFFER(1), UNSURE(1), FIT(1), IMAGE(1), OF_THREAD(1), OF_NAIL(1), YEARS(2), BLOW(2), MUCH(2), SEED(2);

    final int trouble;

    Number(int trouble) {
      this.trouble = trouble;
    }

    int most(PromiseWeb x) {
      switch (this) {
        case NAIL: return x.size(2) - 1;
        case THREAD: return x.size(3) - 1;
        case LOAD: return x.size(5) - 1;
        case OFFER: return x.size(6) - 1;
        case UNSURE: return x.size(7) - 1;
        case FIT: return Math.max(x.fits(), 0) - 1;
        case IMAGE: return x.size(11) - 1;
        case OF_THREAD: return 6;
        case OF_NAIL: return 1;
        case YEARS: return 60;
        case BLOW: return 9;
        case MUCH: return 800;
        default: return 65536;
      }
    }
  }

  private static final Number NAIL = Number.NAIL;
  private static final Number THREAD = Number.THREAD;
  private static final Number YEARS = Number.YEARS;
  private static final int FIRST_ACT = 48;
  private final Edges edges;
  private final List<Supplier<PromiseWeb>> states = new ArrayList<>();
  private final List<String> sights = new ArrayList<>();
  /** Whether the call only asks, so that it leaves all as it was when it isn't refused, too. */
  private boolean asks;

  RefusalEdges(Edges edges) {
    this.edges = edges;
  }

  void all() {
    edges.promise(1, "No WEB");
    for (Supplier<PromiseWeb> made : List.<Supplier<PromiseWeb>>of(this::noWeb, this::leastWeb, this::richWeb)) {
      states.add(made);
      sights.add(Edges.allOf(made.get()));
    }
    now();
    bearing();
    loads();
    clashes();
    liars();
    turns();
    clerks();
    acts();
  }

  /** A FAULT, and THE TAPE not empty. */
  private PromiseWeb noWeb() {
    PromiseWeb x = new PromiseWeb();
    Check.tell(x, "web slips 101");
    Check.feed(x, "web slips 1 clerks 1;nail a");
    x.undo();
    return x;
  }

  private PromiseWeb leastWeb() {
    PromiseWeb x = edges.web("web slips 0 clerks 0;nail a");
    x.undo();
    return x;
  }

  /** Four nails, six threads, three loads, three offers, three unsure ones, eight FITS, four ACTS, two IMAGES, 40 bytes; TROUBLE is 5. */
  private PromiseWeb richWeb() {
    PromiseWeb x = edges.web("web slips 10 clerks 25;nail a;nail b;nail c;nail d;thread p kept a b strong 7 step 3;thread q fading b c strong 9 step 4;"
        + "thread r proving a c strong 95 step 3;thread s lied c d strong 10 step 1;thread z lied a d strong 3 step 0;clash p q;clash r q;"
        + "load a c 100;load c d 11;load b d 10;offer c d strong 1 costs 5;offer a d strong 50 costs 5;offer b d strong 2 costs 0;"
        + "unsure p;unsure s;unsure z;hair p q brown;hair s s clear;hair z r brown");
    x.image();
    x.year();
    x.snap(0);
    x.image();
    x.spin(2);
    x.darn(0);
    Check.feed(x, "web slips 1 clerks 1;nail a;nail b");
    x.darn(0);
    return x;
  }

  private static int[] values(int most) {
    return most < 0 ? new int[] {Integer.MIN_VALUE, -1, 0, 1, Integer.MAX_VALUE} : new int[] {Integer.MIN_VALUE, -1, 0, most, most + 1, Integer.MAX_VALUE};
  }

  /** A call by some numbers in each state. */
  private void call(int promise, String words, String name, long refusal, boolean unlike, Call call, Number... numbers) {
    edges.promise(promise, words);
    asks = promise < FIRST_ACT;
    for (int state = 0; state < states.size(); state++) each(state, name, refusal, unlike, call, numbers, new int[numbers.length], 0);
  }

  private void each(int state, String name, long refusal, boolean unlike, Call call, Number[] numbers, int[] chosen, int at) {
    if (at == numbers.length) {
      one(state, name + Arrays.toString(chosen), refusal, unlike, call, numbers, chosen.clone());
      return;
    }
    for (int value : values(numbers[at].most(states.get(state).get()))) {
      chosen[at] = value;
      each(state, name, refusal, unlike, call, numbers, chosen, at + 1);
    }
  }

  private void one(int state, String name, long refusal, boolean unlike, Call call, Number[] numbers, int[] chosen) {
    PromiseWeb x = states.get(state).get();
    int trouble = x.size(2) == 0 || unlike && chosen[0] == chosen[1] ? 1 : 0;
    for (int pass = 1; pass <= 2; pass++)
      for (int i = 0; i < numbers.length; i++)
        if (trouble == 0 && numbers[i].trouble == pass && (chosen[i] < 0 || chosen[i] > numbers[i].most(x))) trouble = pass;
    x = states.get(state).get();
    long got = call.of(x, chosen);
    if (trouble == 0) {
      // an ACT may still be refused for what is NOW; the tests of ACTS ask that
      boolean notSo = got == refusal && x.trouble() == 5;
      edges.due(name + " isn't refused", notSo || got != refusal && x.trouble() == 0, true);
      if (asks) edges.same(name + ", which only asks, leaves all as it was", Edges.allOf(x), sights.get(state));
    } else {
      edges.refused(name, x, got, refusal, trouble);
      edges.same(name + " leaves all as it was", Edges.allOf(x), sights.get(state));
    }
  }

  private void now() {
    call(6, "NONE: 1", "thread", -1, false, (x, n) -> x.thread(n[0], n[1]), THREAD, Number.OF_THREAD);
    call(7, "NONE: 1", "nail", -1, false, (x, n) -> x.nail(n[0], n[1]), NAIL, Number.OF_NAIL);
    call(8, "NONE: 1; 2", "strong", -1, false, (x, n) -> x.strong(n[0], n[1]), THREAD, YEARS);
    call(9, "NONE: 1", "breaksIn", -1, false, (x, n) -> x.breaksIn(n[0]), THREAD);
    call(10, "NONE: 1 (no WEB); 2", "holding", -1, false, (x, n) -> x.holding(n[0]), YEARS);
    call(11, "NONE: 1 (no WEB); 2", "strongest", -1, false, (x, n) -> x.strongest(n[0]), YEARS);
  }

  private void bearing() {
    call(12, "NONE: 1 (unlike); 2", "bears", -1, true, (x, n) -> x.bears(n[0], n[1], n[2]), NAIL, NAIL, YEARS);
    call(13, "NONE: 1 (unlike); 2", "cut", -1, true, (x, n) -> x.cut(n[0], n[1], n[2]), NAIL, NAIL, YEARS);
    call(14, "NONE: 1 (unlike); 2", "vital", -1, true, (x, n) -> x.vital(n[0], n[1], n[2]), NAIL, NAIL, YEARS);
    call(15, "NONE: 1 (unlike); 2", "needed", -1, true, (x, n) -> x.needed(n[0], n[1], n[2]), NAIL, NAIL, YEARS);
    call(16, "NONE: 1 (no WEB); 2", "weakest", -1, false, (x, n) -> x.weakest(n[0]), YEARS);
    call(17, "NONE: 1; 2", "apart", -1, false, (x, n) -> x.apart(n[0], n[1], n[2]), NAIL, NAIL, YEARS);
    call(18, "NONE: 1 (no WEB); 2", "parts", -1, false, (x, n) -> x.parts(n[0]), YEARS);
    call(19, "NONE: 1 (no WEB); 2", "bridges", -1, false, (x, n) -> x.bridges(n[0]), YEARS);
  }

  private void loads() {
    call(20, "NONE: 1 (no WEB); 2", "borne", -1, false, (x, n) -> x.borne(n[0]), YEARS);
    call(21, "NONE: 1", "fallsIn", -1, false, (x, n) -> x.fallsIn(n[0]), Number.LOAD);
    call(22, "-1000: 1", "spare", -1000, false, (x, n) -> x.spare(n[0]), Number.LOAD);
    call(23, "NONE: 1 (no WEB)", "mend", -1, false, (x, n) -> x.mend());
    call(24, "NONE: 1 (no WEB)", "mendCost", -1, false, (x, n) -> x.mendCost());
    call(25, "NONE: 1 (no WEB)", "bestOffer", -1, false, (x, n) -> x.bestOffer());
  }

  private void clashes() {
    call(26, "NONE: 1 (no WEB); 2", "clashes", -1, false, (x, n) -> x.clashes(n[0]), YEARS);
    call(27, "NONE: 1 (no WEB)", "breakFew", -1, false, (x, n) -> x.breakFew());
    call(28, "NONE: 1 (no WEB)", "breakRued", -1, false, (x, n) -> x.breakRued());
    call(29, "NONE: 1 (no WEB)", "rue", -1, false, (x, n) -> x.rue());
    call(30, "NONE: 1 (no WEB)", "peaces", -1, false, (x, n) -> x.peaces());
  }

  private void liars() {
    call(31, "NONE: 1 (no WEB)", "fits", -1, false, (x, n) -> x.fits());
    call(32, "NONE: 1 (i, too)", "fitAt", -1, false, (x, n) -> x.fitAt(n[0]), Number.FIT);
    call(33, "-1: 1", "odds, upper", -1, false, (x, n) -> x.odds(n[0], false), Number.UNSURE);
    call(33, "-1: 1", "odds, lower", -1, false, (x, n) -> x.odds(n[0], true), Number.UNSURE);
    call(34, "NONE: 1 (no WEB)", "likeliest", -1, false, (x, n) -> x.likeliest());
    call(35, "NONE: 1 (no WEB)", "test", -1, false, (x, n) -> x.test());
    call(36, "NONE: 1 (no WEB)", "testLeaves", -1, false, (x, n) -> x.testLeaves());
    call(37, "-1: 1", "brown, upper", -1, false, (x, n) -> x.brown(n[0], n[1], false), THREAD, THREAD);
    call(37, "-1: 1", "brown, lower", -1, false, (x, n) -> x.brown(n[0], n[1], true), THREAD, THREAD);
    call(38, "NONE: 1 (no WEB)", "judge", -1, false, (x, n) -> x.judge());
  }

  private void turns() {
    call(39, "NONE: 1 (unlike)", "snaps", -1, true, (x, n) -> x.snaps(n[0], n[1]), NAIL, NAIL);
    call(40, "NONE: 1 (unlike)", "snapsBy", -1, true, (x, n) -> x.snapsBy(n[0], n[1]), NAIL, NAIL);
    for (int who = 0; who < 8; who++) {
      boolean registrar = (who & 1) > 0;
      boolean clerk = (who & 2) > 0;
      boolean ofClerk = (who & 4) > 0;
      call(41, "-100: 1 (no WEB); 2", "blows " + who, -100, false, (x, n) -> x.blows(n[0], registrar, clerk, ofClerk), Number.BLOW);
    }
    call(42, "NONE: 1 (no WEB); 2", "rests", -1, false, (x, n) -> x.rests(n[0]), Number.BLOW);
    call(43, "NONE: likewise", "rest", -1, false, (x, n) -> x.rest(n[0]), Number.BLOW);
  }

  private void clerks() {
    call(44, "-1: 1 (unlike); 2", "bearOdds, upper", -1, true, (x, n) -> x.bearOdds(n[0], n[1], n[2], false), NAIL, NAIL, Number.MUCH);
    call(44, "-1: 1 (unlike); 2", "bearOdds, lower", -1, true, (x, n) -> x.bearOdds(n[0], n[1], n[2], true), NAIL, NAIL, Number.MUCH);
    call(45, "-1: 1 (unlike)", "mean, upper", -1, true, (x, n) -> x.mean(n[0], n[1], false), NAIL, NAIL);
    call(45, "-1: 1 (unlike)", "mean, lower", -1, true, (x, n) -> x.mean(n[0], n[1], true), NAIL, NAIL);
    call(46, "NONE: 1 (no WEB); 2", "years", -1, false, (x, n) -> x.years(n[0], n[1]), Number.SEED, YEARS);
    call(47, "NONE: 1; 2", "fallsBy", -1, false, (x, n) -> x.fallsBy(n[0], n[1], n[2]), Number.LOAD, Number.SEED, YEARS);
  }

  private void acts() {
    call(48, "NONE: 1 (no WEB)", "year", -1, false, (x, n) -> x.year());
    call(49, "false: 1", "snap", -1, false, (x, n) -> x.snap(n[0]) ? 1 : -1, THREAD);
    call(50, "NONE: 1", "spin", -1, false, (x, n) -> x.spin(n[0]), Number.OFFER);
    call(51, "NONE: 1", "darn", -1, false, (x, n) -> x.darn(n[0]), THREAD);
    call(53, "NONE: 1 (no WEB)", "image", -1, false, (x, n) -> x.image());
    call(54, "false: 1", "back", -1, false, (x, n) -> x.back(n[0]) ? 1 : -1, Number.IMAGE);
    actsNotSo();
  }

  /** Refusals by what is NOW. */
  private void actsNotSo() {
    edges.promise(49, "5 (it doesn't HOLD NOW)");
    edges.leavesAll("snap(4), lied on from year 0 on", this::richWeb, x -> x.snap(4) ? 1 : -1, -1, 5);
    edges.leavesAll("snap(3), lied on from year 1 on", this::richWeb, x -> x.snap(3) ? 1 : -1, -1, 5);
    edges.promise(50, "3 (eight threads)");
    edges.leavesAll("spin(0)", this::fullWeb, x -> x.spin(0), -1, 3);
    edges.promise(51, "5 (it isn't SNAPPED, and no year went by since it was told, spun, or darned)");
    edges.leavesAll("darn(0), darned", this::richWeb, x -> x.darn(0), -1, 5);
    edges.leavesAll("darn(5), spun", this::richWeb, x -> x.darn(5), -1, 5);
    edges.leavesAll("darn(0), told", this::toldWeb, x -> x.darn(0), -1, 5);
    edges.promise(52, "false: 6");
    edges.leavesAll("undo(), no ACT", this::toldWeb, x -> x.undo() ? 1 : -1, -1, 6);
    edges.leavesAll("undo(), no WEB", this::noWeb, x -> x.undo() ? 1 : -1, -1, 6);
    edges.leavesAll("undo(), gone back", this::goneBack, x -> x.undo() ? 1 : -1, -1, 6);
    edges.promise(53, "3");
    edges.leavesAll("image()", this::fullWeb, x -> x.image(), -1, 3);
  }

  private PromiseWeb toldWeb() {
    return edges.web("web slips 1 clerks 1;nail a;nail b;thread k fading a b strong 3 step 1;offer a b strong 5 costs 0");
  }

  /** Eight threads, three IMAGES. */
  private PromiseWeb fullWeb() {
    PromiseWeb x = edges.web(TextEdges.NAILS + Edges.times(7, "thread # fading a b strong 3 step 1;") + "offer a b strong 5 costs 0");
    for (int i = 0; i < 3; i++) x.image();
    x.spin(0);
    return x;
  }

  private PromiseWeb goneBack() {
    PromiseWeb x = toldWeb();
    x.year();
    x.image();
    x.year();
    x.back(0);
    return x;
  }
}
