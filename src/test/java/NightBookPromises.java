/** For each promise of the document: ordinary inputs, the edges that it names, and wrong inputs. */
public final class NightBookPromises {
  private static final int DONE = 0, NONE_SUCH = 1, NUMBER = 2, ROOM = 3, FAULT = 4, NOT_PLAYED = 5;
  private static final int CALM = 0, EARLY = 1, STUCK = 2, HARM = 3, ROUND = 4, OVER = 5, LONG = 6;
  private static int wrong = 0;

  private static void due(String call, long got, long want) {
    if (got != want) { wrong++; System.out.println(call + " answered " + got + ", due is " + want); }
  }

  private static void due(String call, boolean got, boolean want) {
    due(call, got ? 1 : 0, want ? 1 : 0);
  }

  /** The call answered NONE, and this is its trouble. */
  private static void refused(NightBook x, String call, int got, int trouble) {
    due(call, got, NightBook.NONE);
    due("trouble() behind " + call, x.trouble(), trouble);
  }

  private static void done(NightBook x, String call, int got, int want) {
    due(call, got, want);
    due("trouble() behind " + call, x.trouble(), DONE);
  }

  private static NightBook house(int facts, int signs, int... skills) {
    NightBook x = new NightBook();
    for (int i = 0; i < facts; i++) x.fact();
    for (int i = 0; i < signs; i++) x.sign(i % facts);
    for (int s : skills) x.person(s);
    return x;
  }

  private static void feed(NightBook x, String text) {
    StringBuilder b = new StringBuilder(text);
    while (b.length() % 20 != 0) b.append(' ');
    for (int i = 0; i < b.length(); i += 20) {
      x.feed(word(b, i), word(b, i + 4), word(b, i + 8), word(b, i + 12), word(b, i + 16));
    }
  }

  private static int word(CharSequence s, int i) {
    return s.charAt(i) << 24 | s.charAt(i + 1) << 16 | s.charAt(i + 2) << 8 | s.charAt(i + 3);
  }

  private static int book(NightBook x, String text) {
    feed(x, text);
    return x.book(text.length());
  }

  private static NightBook with(NightBook x, String... texts) {
    for (String t : texts) {
      if (book(x, t) < 0) { wrong++; System.out.println("refused, fault " + x.fault() + " at " + x.where() + ": " + t); }
    }
    return x;
  }

  private static void fault(NightBook x, String text, int fault, int where) {
    refused(x, "book: " + text, book(x, text), FAULT);
    due("fault() of " + text, x.fault(), fault);
    due("where() of " + text, x.where(), where);
    due("count(5) behind " + text, x.count(5), 0);
  }

  private static String times(int n, String s, String between) {
    StringBuilder b = new StringBuilder();
    for (int i = 0; i < n; i++) b.append(i == 0 ? "" : between).append(s);
    return b.toString();
  }

  /** A binary counter of so many bits: each do takes so many ticks; it ends in calm with all facts right. */
  private static String counter(int bits, int ticks) {
    StringBuilder b = new StringBuilder();
    for (int i = 0; i < bits; i++) {
      int at = 4 * i;
      b.append("ask ").append(i).append(" then ").append(at + 3).append(" else ").append(at + 1);
      b.append(";do 0 wrong ").append(i).append(" takes ").append(ticks).append(";go 0");
      b.append(";do 0 right ").append(i).append(" takes ").append(ticks).append(i + 1 < bits ? ";" : "");
    }
    return b.toString();
  }

  private static void newObject() {
    NightBook x = new NightBook();
    for (int what = 0; what <= 5; what++) due("1 count(" + what + ")", x.count(what), 0);
    due("1 trouble()", x.trouble(), DONE);
    due("1 fault()", x.fault(), 0);
    due("1 where()", x.where(), -1);
    due("1 steps(0)", x.steps(0), -1);
    due("1 path(0)", x.path(0), -1);
    due("1 ended(0)", x.ended(0), -1);
    due("1 allOf(0)", x.allOf(0), -1);
    due("1 mend(0)", x.mend(0), -1);
    due("1 night(true, 0)", x.night(true, 0), -1);
    due("1 apart(true)", x.apart(true), -1);
    due("1 apart(false)", x.apart(false), -1);
    x = with(house(8, 0), "calm");
    for (int f = 0; f < 8; f++) due("1 every FACT is of the GOAL", x.play(0, 1 << f, 0, 0), EARLY);
    due("1 calm", x.play(0, 0, 0, 0), CALM);
    x = with(house(0, 0), "calm");
    due("1 without FACTS", x.play(0, 255, 255, 255), CALM);
    x.fact();
    due("1 a later FACT is of the GOAL too", x.play(0, 1, 0, 0), EARLY);
  }

  private static void houseOf() {
    NightBook x = new NightBook();
    refused(x, "3 sign(0) without facts", x.sign(0), NONE_SUCH);
    for (int i = 0; i < 8; i++) done(x, "2 fact()", x.fact(), i);
    refused(x, "2 a ninth fact()", x.fact(), ROOM);
    due("2 count(0)", x.count(0), 8);
    refused(x, "3 sign(-1)", x.sign(-1), NONE_SUCH);
    refused(x, "3 sign(8)", x.sign(8), NONE_SUCH);
    for (int i = 0; i < 8; i++) done(x, "3 sign", x.sign(7 - i), i);
    refused(x, "3 a ninth sign", x.sign(0), ROOM);
    refused(x, "3 a ninth sign of no fact", x.sign(8), NONE_SUCH);
    due("3 count(1)", x.count(1), 8);
    refused(x, "4 person(-1)", x.person(-1), NUMBER);
    refused(x, "4 person(256)", x.person(256), NUMBER);
    done(x, "4 person(0)", x.person(0), 0);
    done(x, "4 person(255)", x.person(255), 1);
    done(x, "4 person", x.person(1), 2);
    done(x, "4 person", x.person(1), 3);
    refused(x, "4 a fifth person", x.person(1), ROOM);
    refused(x, "4 a fifth person(256)", x.person(256), NUMBER);
    due("4 count(2)", x.count(2), 4);
  }

  private static void goalOf() {
    NightBook x = with(house(2, 0), "calm");
    due("5 goal(2)", x.goal(2), true);
    due("5 trouble", x.trouble(), DONE);
    due("5 play", x.play(0, 1, 0, 0), CALM);
    due("5 play", x.play(0, 2, 0, 0), EARLY);
    due("5 goal(-1)", x.goal(-1), false);
    due("5 trouble", x.trouble(), NUMBER);
    due("5 goal(256)", x.goal(256), false);
    due("5 the goal stays", x.play(0, 2, 0, 0), EARLY);
    due("5 goal(252)", x.goal(252), true);
    due("5 facts that there aren't", x.play(0, 3, 0, 0), CALM);
    x.fact();
    due("5 it is there now", x.play(0, 4, 0, 0), EARLY);
    due("5 goal(0)", x.goal(0), true);
    due("5 no goal", x.play(0, 255, 0, 0), CALM);
    due("5 goal(255)", x.goal(255), true);
  }

  private static void tape() {
    NightBook x = new NightBook();
    x.sign(9);
    for (int i = 1; i <= 30; i++) due("6 feed", x.feed(0x63616c6d, 0x20202020, 0, 0, 0), 20 * i);
    due("6 feed beyond 600", x.feed(1, 2, 3, 4, 5), -1);
    due("6 count(5)", x.count(5), 600);
    due("6 feed is of no TROUBLE", x.trouble(), NONE_SUCH);
    refused(x, "7 book(601)", x.book(601), NUMBER);
    due("7 the tape stays", x.count(5), 600);
    refused(x, "7 book(-1)", x.book(-1), NUMBER);
    due("7 the tape stays", x.count(5), 600);
    refused(x, "7 book(600)", x.book(600), FAULT);
    due("7 where", x.where(), 8);
    due("7 the tape is empty", x.count(5), 0);
    x = new NightBook();
    x.feed(0xff, 0, 0, 0, 0);
    refused(x, "6 bytes, the highest first", x.book(20), FAULT);
    due("6 where", x.where(), 0);
    x.feed(0x200a2063, 0x616c6dff, 0, 0, 0);
    done(x, "7 the first n bytes", x.book(7), 0);
    due("7 the tape is empty", x.count(5), 0);
    refused(x, "7 book(1) of an empty tape", x.book(1), NUMBER);
  }

  private static void books() {
    NightBook x = house(2, 1, 1);
    for (int i = 0; i < 4; i++) done(x, "7 book", book(x, "calm"), i);
    due("7 count(3)", x.count(3), 4);
    refused(x, "7 a fifth book", book(x, "calm"), ROOM);
    due("8 no fault", x.fault(), 0);
    due("9 no place", x.where(), -1);
    due("7 the tape is empty", x.count(5), 0);
    fault(x, "calm;", 1, 5);
    due("7 still four", x.count(3), 4);
    x = house(2, 1, 1);
    fault(x, "calm calm", 1, 5);
    x.book(7);
    due("8 the fault stays behind a 2", x.fault(), 1);
    due("9 where is none then", x.where(), -1);
    fault(x, "calm calm", 1, 5);
    x.fact();
    due("8 the fault stays", x.fault(), 1);
    due("9 behind another call", x.where(), -1);
    fault(x, "calm calm", 1, 5);
    due("9 a call of no TROUBLE", x.steps(7), -1);
    due("9 where stays", x.where(), 5);
    done(x, "7 book", book(x, "calm"), 0);
    due("8 without a fault", x.fault(), 0);
  }

  private static void faults() {
    NightBook x = house(2, 1, 1);
    fault(x, "", 1, 0);
    fault(x, "   ", 1, 3);
    fault(x, ";", 1, 0);
    fault(x, " calm;", 1, 6);
    fault(x, "calm;  ", 1, 7);
    fault(x, "calm;;calm", 1, 5);
    fault(x, "Calm", 1, 0);
    fault(x, "calM", 1, 0);
    fault(x, "calm\t", 1, 4);
    fault(x, "calm\r", 1, 4);
    fault(x, "calmness", 1, 0);
    fault(x, "calmnesss", 1, 0);
    fault(x, "cal m", 1, 0);
    fault(x, "calmz", 1, 0);
    fault(x, "calm`", 1, 4);
    fault(x, "calm{", 1, 4);
    fault(x, "wait 5/", 1, 6);
    fault(x, "wait 5:", 1, 6);
    fault(x, "7", 1, 0);
    fault(x, "go", 1, 2);
    fault(x, "go ;calm", 1, 3);
    fault(x, "go calm", 1, 3);
    fault(x, "go 000", 1, 3);
    fault(x, "go 0 0", 1, 5);
    fault(x, "go 1", 2, 3);
    fault(x, "go 01;go 99", 2, 9);
    fault(x, "go 5;go 9 9", 1, 10);
    fault(x, "wait 0", 2, 5);
    fault(x, "wait 61", 2, 5);
    fault(x, "wait 61 7", 2, 5);
    fault(x, "wait 100", 1, 5);
    fault(x, "ask 1 then 0 else 0", 2, 4);
    fault(x, "ask 0 then 1 else 9", 2, 11);
    fault(x, "ask 0 then 0 else 9", 2, 18);
    fault(x, "ask 0 else 0 then 0", 1, 6);
    fault(x, "ask 0 then 0", 1, 12);
    fault(x, "do 8 right 0 takes 1", 2, 3);
    fault(x, "do 0 right 2 takes 1", 2, 11);
    fault(x, "do 0 wrong 2 takes 1", 2, 11);
    fault(x, "do 0 right 0 takes 0", 2, 19);
    fault(x, "do 0 right 0 takes 61", 2, 19);
    fault(x, "do 0 left 0 takes 1", 1, 5);
    fault(x, "do 0 right 0 take 1", 1, 13);
    fault(x, "do 0 right 0", 1, 12);
    fault(x, "do 0 right 0 takes 1 if", 1, 23);
    fault(x, "do 0 right 0 takes 1 if 2 harm", 2, 24);
    fault(x, "do 0 right 0 takes 1 if 0", 1, 25);
    fault(x, "do 0 right 0 takes 1 if 0 harms", 1, 26);
    fault(x, "do 0 right 0 takes 1 harm", 1, 21);
    fault(x, "do 0 right 0 takes 1 if 0 harm if", 1, 31);
    fault(x, "do 9 left", 2, 3);
    fault(x, "go 9;wait 0", 2, 10);
    String most = times(24, "calm", ";");
    fault(x, most + ";calm", 3, 120);
    fault(x, most + "; do 9", 3, 121);
    fault(x, most + ";", 1, 120);
    fault(x, most + ";7", 1, 120);
    fault(x, most + ";abc", 1, 120);
    fault(x, most + " calm", 1, 120);
    fault(x, "go 24;" + times(24, "calm", ";"), 3, 6 + 23 * 5);
    fault(house(0, 0), "do 0 right 0 takes 1", 2, 11);
    fault(house(0, 0), "ask 0 then 0 else 0", 2, 4);
    with(x, most, "do0right00takes60if01harm;do 7\nwrong\n1 takes 1;go 2", "ask00then01else00;calm", "\n wait 60 \n;\n go 23".replace("23", "0"));
    due("10 steps", x.steps(0), 24);
    due("10 steps", x.steps(1), 3);
    due("11 ticks", x.step(1, 0, 3), 60);
    due("11 harm", x.step(1, 0, 4), 1);
    due("11 second target", x.step(2, 0, 3), 0);
    due("11 wait", x.step(3, 0, 1), 60);
  }

  private static void stepsOf() {
    NightBook x = house(3, 2, 1);
    with(x, "do 7 right 2 takes 60 if 1 harm;do 3 wrong 1 takes 9;ask 1 then 5 else 3;wait 8;go 4;calm");
    int[][] want = {{0, 7, 2, 60, 1}, {1, 3, 1, 9, -1}, {2, 1, 5, 3, -1}, {3, 8, 0, 0, -1}, {4, 4, 0, 0, -1}, {5, 0, 0, 0, -1}};
    for (int k = 0; k < 6; k++) {
      for (int what = 0; what < 5; what++) due("11 step(0, " + k + ", " + what + ")", x.step(0, k, what), want[k][what]);
      due("11 what 5", x.step(0, k, 5), -1);
      due("11 what -1", x.step(0, k, -1), -1);
    }
    due("11 step 6", x.step(0, 6, 0), -1);
    due("11 step -1", x.step(0, -1, 0), -1);
    due("11 book 1", x.step(1, 0, 0), -1);
    due("11 book -1", x.step(-1, 0, 0), -1);
    due("10 steps(0)", x.steps(0), 6);
    due("10 steps(1)", x.steps(1), -1);
    due("10 steps(-1)", x.steps(-1), -1);
    with(x, "do 0 right 0 takes 5 if 0 harm;wait 2");
    book(x, "do 1 right 2 takes 5 if 0 harm;do 1 right 2 takes 5 if 0 harm;go 0;go 9");
    due("11 a refused text leaves no book", x.steps(2), -1);
    with(x, "wait 3;calm");
    int[] behind = {5, 0, 0, 0, -1};
    for (int what = 0; what < 5; what++) due("11 nothing stays of it", x.step(2, 1, what), behind[what]);
    due("11 nothing stays of it", x.step(2, 0, 2), 0);
    due("11 nothing stays of it", x.step(2, 0, 4), -1);
    due("18 nothing stays of it", x.idle(2), 0);
  }

  private static void plays() {
    NightBook x = house(2, 2, 1, 3);
    with(x, "ask 0 then 1 else 2;do 0 right 0 takes 5;ask 1 then 3 else 4;do 1 right 1 takes 7;calm");
    refused(x, "13 played(0) ahead of any", x.played(0), NOT_PLAYED);
    x.goal(255);
    refused(x, "13 played(4) ahead of any", x.played(4), NOT_PLAYED);
    x.goal(255);
    refused(x, "13 played(-1) ahead of any", x.played(-1), NOT_PLAYED);
    refused(x, "12 no book", x.play(1, 0, 0, 0), NONE_SUCH);
    refused(x, "12 no book, bad bits", x.play(-1, 256, 0, 0), NONE_SUCH);
    refused(x, "12 wrong", x.play(0, 256, 0, 0), NUMBER);
    refused(x, "12 wrong", x.play(0, -1, 0, 0), NUMBER);
    refused(x, "12 lies", x.play(0, 0, 256, 0), NUMBER);
    refused(x, "12 away", x.play(0, 0, 0, 256), NUMBER);
    refused(x, "13 still nothing", x.played(0), NOT_PLAYED);
    done(x, "12 calm", x.play(0, 255, 252, 252), CALM);
    done(x, "13 ticks", x.played(0), 14);
    done(x, "13 comings", x.played(1), 5);
    done(x, "13 wrong", x.played(2), 0);
    done(x, "13 at", x.played(3), 4);
    int[] noSuch = {4, -1, 5, 99, Integer.MIN_VALUE, Integer.MAX_VALUE};
    for (int what : noSuch) {
      x.goal(256);
      done(x, "13 there is no what " + what + ", and that is no refusal", x.played(what), -1);
    }
    book(x, "go");
    due("9 place of a fault", x.where(), 2);
    done(x, "13 behind a fault", x.played(4), -1);
    due("9 the latest that may be refused was by none", x.where(), -1);
    due("8 the fault stays", x.fault(), 1);
    x.play(0, 256, 0, 0);
    done(x, "13 behind a refused play()", x.played(4), -1);
    due("13 of the latest that told an END", x.played(0), 14);
    for (int i = 0; i < 5; i++) due("14 path", x.path(i), i);
    due("14 path(5)", x.path(5), -1);
    due("14 path(-1)", x.path(-1), -1);
    done(x, "12 stuck", x.play(0, 1, 0, 3), STUCK);
    due("13 at", x.played(3), 1);
    due("13 ticks", x.played(0), 1);
    due("13 wrong", x.played(2), 1);
    done(x, "12 the second one helps", x.play(0, 1, 0, 1), CALM);
    done(x, "12 a lie", x.play(0, 0, 1, 0), CALM);
    due("13 done for nothing", x.played(0), 7);
  }

  private static void endsOf() {
    NightBook x = house(2, 1, 1);
    with(x, "do 0 wrong 0 takes 3 if 1 harm;calm", "do 1 right 0 takes 3 if 0 harm", "wait 1;go 0", "do 0 wrong 1 takes 2;do 0 right 1 takes 2;go 0");
    done(x, "12 harm", x.play(0, 0, 0, 0), HARM);
    due("13 no tick", x.played(0), 0);
    due("13 nothing done", x.played(2), 0);
    due("13 at", x.played(3), 0);
    due("13 comings", x.played(1), 1);
    done(x, "12 early", x.play(0, 2, 0, 0), EARLY);
    due("13 wrong", x.played(2), 3);
    done(x, "12 stuck ahead of harm", x.play(1, 0, 0, 0), STUCK);
    done(x, "12 round", x.play(2, 0, 0, 0), ROUND);
    due("13 ticks", x.played(0), 1);
    due("13 comings", x.played(1), 3);
    due("14 path", x.path(2), 0);
    done(x, "12 round", x.play(3, 2, 0, 0), ROUND);
    due("13 ticks", x.played(0), 6);
    due("13 comings: other facts at first", x.played(1), 5);
    due("13 at", x.played(3), 1);
    done(x, "12 round", x.play(3, 0, 0, 0), ROUND);
    due("13 ticks", x.played(0), 4);
    due("13 comings", x.played(1), 4);
    x = with(house(2, 0, 1), "wait 60;do 0 wrong 0 takes 2", "go 1;go 2;wait 1");
    done(x, "12 over", x.play(0, 0, 0, 0), OVER);
    due("13 ticks", x.played(0), 62);
    due("13 at", x.played(3), 2);
    due("13 comings", x.played(1), 2);
    due("13 wrong", x.played(2), 1);
    due("14 path(2)", x.path(2), -1);
    done(x, "12 over", x.play(1, 0, 0, 0), OVER);
    due("13 ticks", x.played(0), 1);
    due("13 comings", x.played(1), 3);
  }

  private static void longPlays() {
    NightBook x = house(8, 8, 1);
    with(x, counter(6, 60), counter(6, 1), counter(5, 60) + ";wait 60;calm", counter(5, 60) + ";wait 54;wait 53;wait 53");
    done(x, "12 long", x.play(0, 0, 0, 0), LONG);
    due("13 more than 5,000 TICKS, and no step more", x.played(0) > 5000 && x.played(0) <= 5060, true);
    due("13 the last do is done", x.played(3) == x.path(x.played(1) - 1), true);
    done(x, "12 a counter goes over", x.play(1, 0, 0, 0), OVER);
    int asks = 126, dos = 126, gos = 63;
    due("13 ticks", x.played(0), asks + dos);
    due("13 comings", x.played(1), asks + dos + gos);
    due("13 facts", x.played(2), 0);
    for (int i = 0; i < 200; i++) x.log(i % 24);
    int both = x.laid();
    due("26 the first 300 STEPS", x.apart(false), 300 - both);
    due("27 added", x.apart(true), 200 - both);
    x.clear();
    for (int i = 0; i < 200; i++) x.log(x.path(i));
    done(x, "26 the whole log", x.laid(), 200);
    due("27 left", x.apart(false), 100);
    due("27 added", x.apart(true), 0);
    done(x, "12 calm", x.play(2, 0, 0, 0), CALM);
    due("13 ticks", x.played(0), 62 * 61 + 60);
    done(x, "12 over", x.play(3, 0, 0, 0), OVER);
    due("13 ticks", x.played(0), 62 * 61 + 160);
  }

  /** Ticks of exactly 5,000 are not LONG; a tick more is, and LONG is asked ahead of what comes behind. */
  private static void longEdge() {
    // Five bits with dos of 60: 62 asks and 62 dos, 3,782 ticks; 31 times a bit becomes wrong and a go follows.
    String base = counter(5, 60).replace("go 0", "go 21") + ";go 23;wait 39;go 0;";
    NightBook x = house(8, 8, 1);
    with(x, base + "wait 9", base + "wait 10", base + "calm");
    done(x, "12 5,000 ticks", x.play(0, 0, 0, 0), OVER);
    due("13 ticks", x.played(0), 5000);
    due("13 at", x.played(3), 24);
    done(x, "12 5,001 ticks, asked ahead of OVER", x.play(1, 0, 0, 0), LONG);
    due("13 ticks", x.played(0), 5001);
    due("13 at the step behind which it was asked", x.played(3), 23);
    done(x, "12 calm", x.play(2, 0, 0, 0), CALM);
    due("13 ticks", x.played(0), 4991);
    x.person(1);
    done(x, "22 nights with hands for both", x.nights(0, 0, 0, 1, 0, 0, 0), 5001);
    due("23 5,000", x.night(false, 1), 5000);
    due("23 over", x.night(false, 0), OVER);
    due("23 long", x.night(true, 0), LONG);
    NightBook z = house(1, 0, 1);
    with(z, times(24, "wait 60", ";"));
    done(z, "12 over", z.play(0, 0, 0, 0), OVER);
    due("13 ticks", z.played(0), 1440);
  }

  private static void allPlays() {
    NightBook x = house(3, 2, 1, 3);
    with(x, "ask 0 then 1 else 2;do 0 right 0 takes 5;ask 1 then 3 else 4;do 1 right 1 takes 7;calm", "calm");
    refused(x, "15 no book", x.all(2, 256, 9, 9, 9), NONE_SUCH);
    refused(x, "15 no book", x.all(-1, 0, 0, 0, 0), NONE_SUCH);
    refused(x, "15 facts", x.all(0, 256, 0, 0, 0), NUMBER);
    refused(x, "15 facts", x.all(0, -1, 0, 0, 0), NUMBER);
    refused(x, "15 wrongMost", x.all(0, 0, 9, 0, 0), NUMBER);
    refused(x, "15 wrongMost", x.all(0, 0, -1, 0, 0), NUMBER);
    refused(x, "15 liesMost", x.all(0, 0, 0, 9, 0), NUMBER);
    refused(x, "15 liesMost", x.all(0, 0, 0, -1, 0), NUMBER);
    refused(x, "15 awayMost", x.all(0, 0, 0, 0, 9), NUMBER);
    refused(x, "15 awayMost", x.all(0, 0, 0, 0, -1), NUMBER);
    due("16 ahead of any", x.ended(0), -1);
    due("17 ahead of any", x.allOf(0), -1);
    done(x, "15 all", x.all(0, 3, 8, 0, 0), 0);
    due("17 plays", x.allOf(0), 4);
    due("17 least", x.allOf(1), 2);
    due("17 most", x.allOf(2), 14);
    for (int what = 3; what <= 6; what++) due("17 none is bad", x.allOf(what), -1);
    due("17 number", x.allOf(7), 3);
    due("17 what 8", x.allOf(8), -1);
    due("17 what -1", x.allOf(-1), -1);
    done(x, "15 fact 2 is never mended", x.all(0, 255, 1, 0, 0), 1);
    due("17 plays", x.allOf(0), 4);
    due("17 the first bad one", x.allOf(3), 4);
    due("17 lies", x.allOf(4), 0);
    due("17 away", x.allOf(5), 0);
    due("17 end", x.allOf(6), EARLY);
    due("16 ended(0)", x.ended(0), 3);
    due("16 ended(1)", x.ended(1), 1);
    due("16 ended(7)", x.ended(7), -1);
    due("16 ended(-1)", x.ended(-1), -1);
    x.all(9, 0, 0, 0, 0);
    x.all(0, 256, 0, 0, 0);
    due("16 a refused one changes nothing", x.ended(0), 3);
    done(x, "15 fewer choices come first", x.all(0, 3, 2, 2, 2), 64 - 9 - 9 - 3 - 1);
    due("17 plays", x.allOf(0), 64);
    done(x, "15 all away", x.all(0, 1, 1, 0, 2), 1);
    due("17 facts", x.allOf(3), 1);
    due("17 away", x.allOf(5), 3);
    due("17 end", x.allOf(6), STUCK);
    due("16 stuck", x.ended(STUCK), 1);
    done(x, "15 no calm", x.all(1, 0, 0, 0, 0), 0);
    x.goal(1);
    done(x, "15 by the goal", x.all(1, 3, 2, 0, 0), 2);
    due("17 the first CALM one with the most TICKS", x.allOf(7), 0);
  }

  private static void choiceOrder() {
    NightBook x = house(2, 2, 1, 1);
    // Only a lie of sign 1 leads to a harm, and only one of sign 0 to a round: the order tells which is first.
    with(x, "ask 0 then 4 else 1;ask 1 then 3 else 2;calm;do 0 right 0 takes 1 if 0 harm;go 4");
    done(x, "15 lies", x.all(0, 0, 0, 1, 0), 2);
    due("17 sign 0 first", x.allOf(4), 1);
    due("17 round", x.allOf(6), ROUND);
    done(x, "15 facts ahead of lies", x.all(0, 3, 1, 1, 0), 8);
    due("17 facts are the low bits", x.allOf(3), 1);
    due("17 no lie", x.allOf(4), 0);
    done(x, "15 of the facts told", x.all(0, 2, 1, 1, 0), 5);
    due("17 fact 1", x.allOf(3), 2);
    due("17 end", x.allOf(6), HARM);
    with(x, "ask 0 then 1 else 4;ask 0 then 2 else 4;wait 60;do 7 right 0 takes 1;calm");
    due("17 a bad one with two people away comes behind one with a lie", x.all(1, 0, 0, 1, 2), 4);
    due("17 lies", x.allOf(4), 1);
    due("17 away", x.allOf(5), 0);
    NightBook y = house(1, 0, 1, 1);
    with(y, "do 0 right 0 takes 3;calm");
    due("15 both away", y.all(0, 1, 1, 0, 2), 2);
    due("17 away", y.allOf(5), 3);
    due("17 facts", y.allOf(3), 0);
  }

  private static void manyPlays() {
    NightBook x = house(8, 8, 1, 1, 1, 1);
    with(x, "calm");
    done(x, "15 256", x.all(0, 255, 8, 0, 0), 255);
    due("17 plays", x.allOf(0), 256);
    refused(x, "15 256 * 9", x.all(0, 255, 8, 1, 0), ROOM);
    due("17 stays", x.allOf(0), 256);
    refused(x, "15 all", x.all(0, 255, 8, 8, 8), ROOM);
    refused(x, "28 all", x.differ(0, 0, 255, 8, 8, 8), ROOM);
    done(x, "15 496 = 31 * 16", x.all(0, 31, 4, 0, 8), 480);
    due("17 plays", x.allOf(0), 496);
    refused(x, "15 512 = 32 * 16", x.all(0, 31, 5, 0, 8), ROOM);
    done(x, "28 496", x.differ(0, 0, 31, 4, 0, 8), 0);
    refused(x, "28 512", x.differ(0, 0, 31, 5, 0, 8), ROOM);
    NightBook y = house(4, 0, 1, 1, 1, 1);
    with(y, "calm");
    due("15 8 people at most of 4", y.all(0, 15, 8, 8, 8), 240);
    due("17 plays", y.allOf(0), 256);
  }

  private static void lacks() {
    NightBook x = house(2, 1, 1, 2);
    with(x, "ask 0 then 2 else 4;calm;do 0 right 0 takes 1;go 6;do 2 right 1 takes 1;calm;wait 1;do 1 wrong 0 takes 1;do 3 wrong 0 takes 1");
    int[] want = {3, 2, 3, 3, 1, 3, 3, 3, 1};
    for (int k = 0; k < want.length; k++) due("19 look(0, " + k + ")", x.look(0, k), want[k]);
    due("18 idle(0)", x.idle(0), 1);
    due("18 idle(1)", x.idle(1), -1);
    due("18 idle(-1)", x.idle(-1), -1);
    due("19 look(0, 9)", x.look(0, 9), -1);
    due("19 look(0, -1)", x.look(0, -1), -1);
    due("19 look(1, 0)", x.look(1, 0), -1);
    x.person(4);
    due("19 somebody has it now", x.look(0, 4), 3);
    with(x, "go 3;go 2;go 1;go 4;go 3", "calm;" + times(23, "calm", ";"), times(24, "wait 1", ";"));
    due("18 idle: two that lead to each other", x.idle(1), 2);
    due("18 idle: behind a calm", x.idle(2), 23);
    due("18 idle: none", x.idle(3), 0);
  }

  private static void mendsOf() {
    NightBook x = house(2, 2, 1, 2);
    with(x, "ask 0 then 2 else 1;calm;do 0 right 0 takes 2;go 0", "go 0;calm", "do 7 right 0 takes 1;calm", "do 0 right 0 takes 1;go 1;calm");
    refused(x, "20 ahead of any", x.mends(), NOT_PLAYED);
    due("21 ahead of any", x.mend(0), -1);
    x.all(0, 1, 1, 0, 0);
    done(x, "20 none is bad", x.mends(), 0);
    due("21 none", x.mend(0), -1);
    done(x, "15 rounds", x.all(1, 0, 0, 0, 0), 1);
    done(x, "20 mends", x.mends(), 1);
    due("21 kind", x.mend(0), 2);
    due("21 step", x.mend(1), 0);
    due("21 target", x.mend(2), 1);
    due("21 what 3", x.mend(3), -1);
    due("21 what -1", x.mend(-1), -1);
    due("20 nothing is changed", x.step(1, 0, 1), 0);
    due("20 nothing is changed", x.play(1, 0, 0, 0), ROUND);
    done(x, "15 stuck", x.all(2, 1, 1, 0, 0), 2);
    due("21 of the latest mends()", x.mend(0), 2);
    done(x, "20 each may learn it", x.mends(), 2);
    due("21 kind", x.mend(0), 3);
    due("21 person", x.mend(1), 0);
    due("21 skill", x.mend(2), 7);
    due("20 nobody has learnt", x.look(2, 0), 1);
    done(x, "15 by people away", x.all(2, 1, 1, 0, 1), 6);
    done(x, "20 one is not enough", x.mends(), 0);
    due("21 none", x.mend(0), -1);
    done(x, "15 a round", x.all(3, 1, 1, 0, 0), 2);
    done(x, "20 of a go", x.mends(), 1);
    due("21 target", x.mend(2), 2);
    x.all(0, 1, 1, 0, 0);
    due("21 of the latest mends()", x.mend(2), 2);
  }

  private static void moreMends() {
    NightBook x = house(1, 1, 1);
    with(x, "ask 0 then 1 else 2;calm;do 0 right 0 takes 1;calm");
    done(x, "15 early", x.all(0, 1, 1, 0, 0), 1);
    // Its first target to 2 cures, its second doesn't; no skill helps.
    done(x, "20 mends", x.mends(), 1);
    due("21 kind", x.mend(0), 0);
    due("21 target", x.mend(2), 2);
    with(x, "ask 0 then 1 else 0;do 0 right 0 takes 1;calm");
    done(x, "15 round", x.all(1, 1, 1, 0, 0), 1);
    done(x, "20 its second target: 1, 2", x.mends(), 2);
    due("21 kind", x.mend(0), 1);
    due("21 step", x.mend(1), 0);
    due("21 target", x.mend(2), 1);
    // By the choices that it had: a fact that comes later isn't wrong in them.
    done(x, "15 round", x.all(1, 255, 1, 0, 0), 1);
    x.fact();
    x.sign(1);
    x.person(0);
    done(x, "20 by the choices that it had", x.mends(), 2);
  }

  private static void manyMends() {
    // One go and people without skills: 23 + 8 * people mends, times plays.
    NightBook x = house(8, 0, 0, 0);
    with(x, "go 0;" + times(23, "calm", ";"));
    done(x, "15 256 plays", x.all(0, 255, 8, 0, 0), 256);
    done(x, "20 39 * 256 are 9,984", x.mends(), 0);
    x.goal(0);
    done(x, "20 by the goal of now", x.mends(), 23);
    x.person(0);
    x.person(0);
    due("20 55 * 256 are 14,080", x.mends(), 23);
    NightBook y = house(8, 2, 0, 0, 0, 0);
    with(y, "ask 0 then 0 else 0;" + times(23, "calm", ";"), "calm");
    done(y, "15 256 plays", y.all(0, 255, 8, 0, 0), 256);
    done(y, "20 (46 + 32) * 256 are 19,968", y.mends(), 0);
    y.goal(0);
    done(y, "15 all end", y.all(0, 127, 7, 1, 0), 3 * 128);
    refused(y, "20 78 * 384", y.mends(), ROOM);
    done(y, "15 none is bad", y.all(1, 127, 7, 1, 0), 0);
    done(y, "20 none was bad", y.mends(), 0);
    NightBook v = house(4, 4, 0, 0, 0, 0);
    with(v, times(8, "go 0", ";") + ";" + times(9, "calm", ";"), times(7, "go 0", ";") + ";" + times(17, "calm", ";"));
    done(v, "15 5 * 5 * 5 plays", v.all(0, 15, 1, 1, 1), 125);
    done(v, "20 160 * 125 are 20,000", v.mends(), 0);
    v.all(1, 15, 1, 1, 1);
    refused(v, "20 193 * 125", v.mends(), ROOM);
    NightBook z = house(8, 0, 0, 0, 0, 0);
    with(z, "go 0;go 0;" + times(22, "calm", ";"));
    z.goal(0);
    done(z, "15 256 plays", z.all(0, 255, 8, 0, 0), 256);
    done(z, "20 78 * 256", z.mends(), 22);
    due("21 target", z.mend(2), 2);
    NightBook w = house(8, 0, 0, 0, 0, 0);
    with(w, "go 0;go 0;go 0;" + times(21, "calm", ";"));
    due("15 256 plays", w.all(0, 255, 8, 0, 0), 256);
    refused(w, "20 101 * 256", w.mends(), ROOM);
    due("21 none told", w.mend(0), -1);
  }

  private static void twoNights() {
    NightBook x = house(2, 1, 1);
    with(x, "do 0 right 0 takes 4;calm", "wait 3", "do 0 right 0 takes 2;do 0 right 1 takes 2;calm", "do 0 wrong 0 takes 3 if 1 harm;calm");
    due("23 ahead of any", x.night(false, 0), -1);
    refused(x, "22 no book", x.nights(4, 256, 0, 0, 0, 0, 0), NONE_SUCH);
    refused(x, "22 no book", x.nights(0, 0, 0, 4, 0, 0, 0), NONE_SUCH);
    refused(x, "22 no book", x.nights(0, 0, 0, -1, 0, 0, 0), NONE_SUCH);
    refused(x, "22 bits", x.nights(0, 256, 0, 0, 0, 0, 0), NUMBER);
    refused(x, "22 bits", x.nights(0, 0, 256, 0, 0, 0, 0), NUMBER);
    refused(x, "22 bits", x.nights(0, 0, 0, 0, 256, 0, 0), NUMBER);
    refused(x, "22 bits", x.nights(0, 0, 0, 0, 0, 256, 0), NUMBER);
    refused(x, "22 bits", x.nights(0, 0, 0, 0, 0, 0, 256), NUMBER);
    refused(x, "22 bits", x.nights(0, 0, 0, 0, 0, 0, -1), NUMBER);
    due("23 ahead of any", x.night(true, 0), -1);
    done(x, "22 the same hands", x.nights(0, 1, 0, 0, 1, 0, 0), 8);
    int[] first = {CALM, 4, 0, -1};
    int[] second = {CALM, 8, 4, -1};
    for (int what = 0; what < 4; what++) {
      due("23 first, what " + what, x.night(false, what), first[what]);
      due("23 second, what " + what, x.night(true, what), second[what]);
    }
    due("23 what -1", x.night(true, -1), -1);
    // The first goes on first at each tick: it keeps the hands until it ends.
    done(x, "22 the first keeps the hands", x.nights(2, 3, 0, 0, 1, 0, 0), 8);
    due("23 waited", x.night(true, 2), 4);
    due("23 ticks", x.night(false, 1), 4);
    done(x, "22 nobody", x.nights(0, 1, 0, 1, 0, 0, 1), 3);
    due("23 stuck", x.night(false, 0), STUCK);
    due("23 at once", x.night(false, 1), 0);
    due("23 over", x.night(true, 0), OVER);
    // HARM is asked when hands are there.
    done(x, "22 harm behind waiting", x.nights(0, 1, 0, 3, 0, 0, 0), 4);
    due("23 harm", x.night(true, 0), HARM);
    due("23 ticks", x.night(true, 1), 4);
    due("23 waited", x.night(true, 2), 4);
    done(x, "22 harm ahead of waiting", x.nights(3, 0, 0, 0, 1, 0, 0), 4);
    due("23 harm takes no hands", x.night(true, 2), 0);
    due("23 harm", x.night(false, 1), 0);
    x.person(1);
    done(x, "22 two pairs of hands", x.nights(0, 1, 0, 0, 1, 0, 0), 4);
    done(x, "22 one is away", x.nights(0, 1, 0, 0, 1, 0, 1), 8);
  }

  private static void nightsInTurn() {
    NightBook x = house(2, 2, 1, 2, 3);
    with(x, "wait 1;do 0 right 0 takes 2;wait 1;do 0 right 1 takes 3;calm",
        "do 0 right 0 takes 3;ask 0 then 0 else 2;do 0 right 1 takes 2;calm",
        "go 1;go 0", "ask 1 then 0 else 1;do 1 wrong 1 takes 5;calm");
    // Away: 1 and 2, so that person 0 alone has skill 0. Second: 0..2; first waits 1, 2, does 3..4, waits step 5, second: ask 3, do 5..6.
    done(x, "22 in turn", x.nights(0, 3, 0, 1, 3, 0, 6), 10);
    due("23 first", x.night(false, 1), 10);
    due("23 first waited", x.night(false, 2), 3);
    due("23 second", x.night(true, 1), 7);
    due("23 second waited", x.night(true, 2), 1);
    done(x, "22 round at once", x.nights(2, 0, 0, 2, 0, 0, 0), 0);
    due("23 round", x.night(false, 0), ROUND);
    done(x, "22 lies are a night's own", x.nights(3, 0, 2, 3, 0, 0, 0), 6);
    due("23 round", x.night(false, 0), ROUND);
    due("23 ticks", x.night(false, 1), 1);
    due("23 early", x.night(true, 0), EARLY);
    x.nights(9, 0, 0, 0, 0, 0, 0);
    due("23 a refused one changes nothing", x.night(true, 0), EARLY);
    due("13 nights are no play()", x.played(0), -1);
    NightBook y = house(8, 8, 1);
    with(y, counter(6, 60), "do 0 right 0 takes 9;calm", counter(6, 60).replace("do 0 ", "do 1 "));
    int ticks = y.play(0, 0, 0, 0) == LONG ? y.played(0) : -1;
    due("22 both ask, then find nobody", y.nights(0, 0, 0, 0, 0, 0, 1), 1);
    due("22 a long night and one that waits for its asks' ticks", y.nights(0, 0, 0, 1, 1, 0, 0) >= ticks, true);
    due("23 long", y.night(false, 0), LONG);
    due("23 long", y.night(false, 1) > 5000, true);
    due("23 calm", y.night(true, 0), CALM);
    due("23 hands are free while the first asks", y.night(true, 2), 0);
  }

  private static void logs() {
    NightBook x = with(house(1, 1, 1), "ask 0 then 1 else 3;do 0 right 0 takes 1;go 0;wait 2;calm");
    refused(x, "26 nothing was played", x.laid(), NOT_PLAYED);
    due("27 ahead of any", x.apart(true), -1);
    refused(x, "24 log(-1)", x.log(-1), NUMBER);
    refused(x, "24 log(24)", x.log(24), NUMBER);
    done(x, "24 log(23)", x.log(23), 1);
    done(x, "24 log(0)", x.log(0), 2);
    due("25 clear()", x.clear(), 2);
    due("25 clear()", x.clear(), 0);
    for (int i = 1; i <= 200; i++) done(x, "24 log", x.log(7), i);
    refused(x, "24 a 201st", x.log(7), ROOM);
    refused(x, "24 a 201st, bad", x.log(99), NUMBER);
    due("29 count(4)", x.count(4), 200);
    due("25 clear() is of no TROUBLE", x.clear(), 200);
    due("30 trouble", x.trouble(), NUMBER);
    x.play(0, 1, 0, 0);
    int[] log = {3, 0, 1, 9, 0, 4, 3};
    for (int step : log) x.log(step);
    // The play: 0 1 2 0 3 4.
    done(x, "26 laid", x.laid(), 4);
    due("27 left", x.apart(false), 2);
    due("27 added", x.apart(true), 3);
    x.clear();
    x.play(0, 0, 0, 0);
    due("27 of the latest laid()", x.apart(true), 3);
    done(x, "26 an empty log", x.laid(), 0);
    due("27 left", x.apart(false), 3);
    due("27 added", x.apart(true), 0);
    x.play(9, 0, 0, 0);
    x.log(0);
    done(x, "26 beside the latest play() that was played", x.laid(), 1);
  }

  private static void differs() {
    NightBook x = house(2, 2, 1);
    with(x, "do 0 right 0 takes 2;do 0 right 1 takes 2;calm",
        "ask 0 then 1 else 2;do 0 right 0 takes 1;do 0 right 1 takes 2;calm", "calm;wait 9", "wait 1;calm");
    refused(x, "28 no book", x.differ(4, 0, 256, 9, 0, 0), NONE_SUCH);
    refused(x, "28 no book", x.differ(0, 4, 0, 0, 0, 0), NONE_SUCH);
    refused(x, "28 no book", x.differ(0, -1, 0, 0, 0, 0), NONE_SUCH);
    refused(x, "28 facts", x.differ(0, 1, 256, 0, 0, 0), NUMBER);
    refused(x, "28 facts", x.differ(0, 1, -1, 0, 0, 0), NUMBER);
    refused(x, "28 most", x.differ(0, 1, 0, 9, 0, 0), NUMBER);
    refused(x, "28 most", x.differ(0, 1, 0, 0, -1, 0), NUMBER);
    refused(x, "28 most", x.differ(0, 1, 0, 0, 0, 9), NUMBER);
    done(x, "28 itself", x.differ(0, 0, 3, 2, 2, 1), 0);
    done(x, "28 by the ticks of calm ones", x.differ(0, 1, 3, 2, 0, 0), 2);
    done(x, "28 both stuck or ended alike", x.differ(0, 1, 3, 0, 0, 1), 1);
    done(x, "28 ends unlike", x.differ(0, 2, 3, 2, 0, 0), 4);
    done(x, "28 ticks of others are of no matter", x.differ(2, 3, 3, 2, 0, 0), 1);
    due("28 it is no all()", x.allOf(0), -1);
    due("28 it is no play()", x.played(0), -1);
  }

  private static void counts() {
    NightBook x = house(3, 2, 1);
    with(x, "calm");
    x.log(1);
    x.feed(1, 2, 3, 4, 5);
    int[] want = {3, 2, 1, 1, 1, 20, -1};
    for (int what = 0; what < 7; what++) due("29 count(" + what + ")", x.count(what), want[what]);
    due("29 count(-1)", x.count(-1), -1);
    x.person(999);
    due("30 trouble", x.trouble(), NUMBER);
    due("30 trouble again", x.trouble(), NUMBER);
    x.count(99); x.steps(99); x.step(9, 9, 9); x.path(99); x.ended(99); x.allOf(99); x.idle(99); x.look(9, 9);
    x.mend(99); x.night(true, 99); x.clear(); x.apart(true); x.fault(); x.where();
    due("30 calls of no TROUBLE", x.trouble(), NUMBER);
    x.goal(1);
    due("30 it wasn't", x.trouble(), DONE);
  }

  public static void main(String[] args) {
    due("NONE", NightBook.NONE, -1);
    newObject(); houseOf(); goalOf(); tape(); books(); faults(); stepsOf();
    plays(); endsOf(); longPlays(); longEdge(); allPlays(); choiceOrder(); manyPlays();
    lacks(); mendsOf(); moreMends(); manyMends(); twoNights(); nightsInTurn(); logs(); differs(); counts();
    System.out.println(wrong == 0 ? "all answers are as due" : wrong + " answers are not as due");
    if (wrong != 0) System.exit(1);
  }
}
