/** The document's boundary cases, sentence by sentence: each sentence() is told ahead of the calls that hold it. */
public final class NightBookEdges {
  private static final int DONE = 0, NONE_SUCH = 1, NUMBER = 2, ROOM = 3, FAULT = 4, NOT_PLAYED = 5;
  private static final int CALM = 0, EARLY = 1, STUCK = 2, HARM = 3, ROUND = 4, OVER = 5, LONG = 6;
  private static final int NONE = -1, LEAST = Integer.MIN_VALUE, MOST = Integer.MAX_VALUE;
  private static final int[] NO_BITS = {-1, 256, LEAST, MOST};
  private static final int[] NO_MOSTS = {-1, 9, LEAST, MOST};
  private static int wrong = 0;
  private static int sentences = 0;
  private static String sentence = "";

  private static void sentence(String told) {
    sentence = told;
    sentences++;
  }

  private static void due(String call, long got, long want) {
    if (got != want) {
      wrong++;
      System.out.println("<" + sentence + ">: " + call + " answered " + got + ", due is " + want);
    }
  }

  private static void due(String call, boolean got, boolean want) {
    due(call, got ? 1 : 0, want ? 1 : 0);
  }

  private static void refused(NightBook x, String call, int got, int trouble) {
    due(call, got, NONE);
    due("trouble() behind " + call, x.trouble(), trouble);
  }

  private static void done(NightBook x, String call, int got, int want) {
    due(call, got, want);
    due("trouble() behind " + call, x.trouble(), DONE);
  }

  private static NightBook house(int facts, int signs, int... skills) {
    NightBook x = new NightBook();
    for (int i = 0; i < facts; i++) x.fact();
    for (int i = 0; i < signs; i++) x.sign(i % facts);
    for (int s : skills) x.person(s);
    return x;
  }

  private static int word(CharSequence s, int i) {
    return s.charAt(i) << 24 | s.charAt(i + 1) << 16 | s.charAt(i + 2) << 8 | s.charAt(i + 3);
  }

  private static void feed(NightBook x, String text) {
    StringBuilder b = new StringBuilder(text);
    while (b.length() % 20 != 0) b.append(' ');
    for (int i = 0; i < b.length(); i += 20) {
      x.feed(word(b, i), word(b, i + 4), word(b, i + 8), word(b, i + 12), word(b, i + 16));
    }
  }

  private static int book(NightBook x, String text) {
    feed(x, text);
    return x.book(text.length());
  }

  private static NightBook with(NightBook x, String... texts) {
    for (String t : texts) {
      int before = x.count(3);
      done(x, "book of <" + t + ">", book(x, t), before);
    }
    return x;
  }

  private static void taken(int facts, int signs, String text) {
    with(house(facts, signs), text);
  }

  private static void fault(int facts, int signs, String text, int fault, int where) {
    NightBook x = house(facts, signs);
    refused(x, "book of <" + text + ">", book(x, text), FAULT);
    due("fault() of <" + text + ">", x.fault(), fault);
    due("where() of <" + text + ">", x.where(), where);
    due("count(3) behind <" + text + ">", x.count(3), 0);
  }

  private static String times(int n, String s, String between) {
    StringBuilder b = new StringBuilder();
    for (int i = 0; i < n; i++) b.append(i == 0 ? "" : between).append(s);
    return b.toString();
  }

  /** How a play went: END, TICKS, STEPS come to, FACTS wrong, STEP at its end. */
  private static void went(NightBook x, String call, int end, int... want) {
    due(call, end, want[0]);
    due("trouble() behind " + call, x.trouble(), DONE);
    for (int what = 0; what < 4; what++) due("played(" + what + ") behind " + call, x.played(what), want[what + 1]);
  }

  private static void path(NightBook x, int... steps) {
    for (int i = 0; i < steps.length; i++) due("path(" + i + ")", x.path(i), steps[i]);
    due("path(" + steps.length + ")", x.path(steps.length), NONE);
    due("path(-1)", x.path(-1), NONE);
  }

  /** A night: END, TICKS at its end, TICKS that it waited. */
  private static void night(NightBook x, boolean second, int... want) {
    for (int what = 0; what < 3; what++) due("night(" + second + ", " + what + ")", x.night(second, what), want[what]);
  }

  /** A binary counter over the first facts: 4 steps a bit, each do takes so many ticks, each go leads to a step. */
  private static String counter(int bits, int ticks, int back) {
    StringBuilder b = new StringBuilder();
    for (int i = 0; i < bits; i++) {
      int at = 4 * i;
      b.append("ask ").append(i).append(" then ").append(at + 3).append(" else ").append(at + 1);
      b.append(";do 0 wrong ").append(i).append(" takes ").append(ticks).append(";go ").append(back);
      b.append(";do 0 right ").append(i).append(" takes ").append(ticks).append(i + 1 < bits ? ";" : "");
    }
    return b.toString();
  }

  // ---- the head and the bounds

  private static void calls() {
    sentence("An object is used for at most 512 calls after it has been made");
    NightBook x = new NightBook();
    int calls = 0;
    for (; calls < 8; calls++) x.fact();
    for (int i = 1; i <= 200; i++, calls++) due("log", x.log(i % 24), i);
    for (int i = 1; i <= 30; i++, calls++) due("feed", x.feed(0x63616c6d, 0x3b202020, 0x63616c6d, 0x20202020, 0x20202020), 20 * i);
    due("book", x.book(13), 0);
    calls++;
    for (; calls < 510; calls++) due("play", x.play(0, calls & 255, 0, 0), (calls & 255) == 0 ? CALM : EARLY);
    due("the 511th call", x.all(0, 255, 8, 0, 0), 255);
    due("the 512th call", x.allOf(0), 256);
    sentence("NONE = -1");
    due("NONE", NightBook.NONE, -1);
  }

  private static void newObject() {
    sentence("1: No FACTS, SIGNS, PEOPLE, BOOKS");
    NightBook x = new NightBook();
    for (int what = 0; what <= 5; what++) due("count(" + what + ")", x.count(what), 0);
    due("sign(0)", x.sign(0), NONE);
    due("steps(0)", x.steps(0), NONE);
    due("play(0, 0, 0, 0)", x.play(0, 0, 0, 0), NONE);
    sentence("1: the GOAL is all FACTS");
    for (int f = 0; f < 8; f++) {
      NightBook y = with(house(f + 1, 0), "calm");
      due("the last fact is wrong", y.play(0, 1 << f, 0, 0), EARLY);
      due("the first fact is wrong", y.play(0, 1, 0, 0), EARLY);
      due("none is", y.play(0, 0, 0, 0), CALM);
    }
    NightBook z = with(new NightBook(), "calm");
    due("no fact is there", z.play(0, 255, 0, 0), CALM);
    z.fact();
    due("a fact told behind the book", z.play(0, 255, 0, 0), EARLY);
  }

  private static void facts() {
    sentence("I, 2: FACTS 8; its number; NONE (3)");
    NightBook x = new NightBook();
    for (int i = 0; i < 8; i++) {
      due("count(0)", x.count(0), i);
      done(x, "fact()", x.fact(), i);
    }
    for (int i = 0; i < 2; i++) {
      refused(x, "a ninth fact()", x.fact(), ROOM);
      due("count(0)", x.count(0), 8);
    }
  }

  private static void signs() {
    sentence("3: A SIGN of a FACT: its number. NONE: 1");
    NightBook x = new NightBook();
    for (int fact : new int[] {0, -1, 8, LEAST, MOST}) refused(x, "sign(" + fact + ") without facts", x.sign(fact), NONE_SUCH);
    x.fact();
    done(x, "sign(0)", x.sign(0), 0);
    for (int fact : new int[] {1, -1, 8, LEAST, MOST}) {
      refused(x, "sign(" + fact + ") of one fact", x.sign(fact), NONE_SUCH);
      due("count(1)", x.count(1), 1);
    }
    for (int i = 1; i < 8; i++) x.fact();
    refused(x, "sign(8)", x.sign(8), NONE_SUCH);
    done(x, "sign(7)", x.sign(7), 1);
    sentence("I, 3: SIGNS 8; NONE: 3");
    for (int i = 2; i < 8; i++) done(x, "sign(0)", x.sign(0), i);
    refused(x, "a ninth sign", x.sign(7), ROOM);
    due("count(1)", x.count(1), 8);
    refused(x, "a ninth sign of no fact: 1 comes first", x.sign(8), NONE_SUCH);
    sentence("I: each of a FACT (the first and the last sign of the last and the first fact)");
    NightBook y = house(8, 0);
    for (int i = 0; i < 8; i++) y.sign(7 - i);
    with(y, "ask 0 then 2 else 1;calm;wait 1", "ask 7 then 2 else 1;calm;wait 1");
    y.goal(0);
    for (int f = 0; f < 8; f++) {
      due("sign 0 with fact " + f, y.play(0, 1 << f, 0, 0), f == 7 ? OVER : CALM);
      due("sign 7 with fact " + f, y.play(1, 1 << f, 0, 0), f == 0 ? OVER : CALM);
    }
  }

  private static void people() {
    sentence("4: SKILLS as bits (0 .. 255); NONE: 2");
    NightBook x = new NightBook();
    for (int skills : NO_BITS) {
      refused(x, "person(" + skills + ")", x.person(skills), NUMBER);
      due("count(2)", x.count(2), 0);
    }
    done(x, "person(0)", x.person(0), 0);
    done(x, "person(255)", x.person(255), 1);
    sentence("I, 4: PEOPLE 4; NONE: 3");
    done(x, "person(1)", x.person(1), 2);
    done(x, "person(1)", x.person(1), 3);
    refused(x, "a fifth person", x.person(1), ROOM);
    due("count(2)", x.count(2), 4);
    for (int skills : NO_BITS) refused(x, "a fifth person(" + skills + "): 2 comes first", x.person(skills), NUMBER);
    sentence("I: SKILLS (0 .. 7)");
    for (int skill = 0; skill < 8; skill++) {
      NightBook y = with(house(1, 0, 1 << skill), "do " + skill + " right 0 takes 1;calm", "do " + (skill + 1) % 8 + " right 0 takes 1;calm");
      due("the skill " + skill, y.play(0, 1, 0, 0), CALM);
      due("another skill than " + skill, y.play(1, 1, 0, 0), STUCK);
    }
    NightBook z = with(house(1, 0, 0, 255), "do 0 right 0 takes 1;do 7 right 0 takes 1;calm");
    due("person(255) can all", z.play(0, 1, 0, 0), CALM);
    due("person(0) can nothing", z.play(0, 1, 0, 2), STUCK);
    sentence("I: PEOPLE 4 (the first and the last)");
    NightBook first = with(house(1, 0, 1, 0, 0, 0), "do 0 right 0 takes 1;calm");
    NightBook last = with(house(1, 0, 0, 0, 0, 1), "do 0 right 0 takes 1;calm");
    for (int away = 0; away < 16; away++) {
      due("person 0 has it, away " + away, first.play(0, 1, 0, away), (away & 1) == 0 ? CALM : STUCK);
      due("person 3 has it, away " + away, last.play(0, 1, 0, away), (away & 8) == 0 ? CALM : STUCK);
    }
  }

  private static void goals() {
    sentence("5: false (2)");
    NightBook x = with(house(8, 0), "calm");
    x.goal(128);
    for (int facts : NO_BITS) {
      due("goal(" + facts + ")", x.goal(facts), false);
      due("trouble() behind goal(" + facts + ")", x.trouble(), NUMBER);
    }
    due("the goal is as it was", x.play(0, 127, 0, 0), CALM);
    due("the goal is as it was", x.play(0, 128, 0, 0), EARLY);
    sentence("5: The GOAL: FACTS as bits (0 .. 255): true");
    for (int f = 0; f < 8; f++) {
      due("goal", x.goal(1 << f), true);
      due("trouble() behind goal", x.trouble(), DONE);
      due("fact " + f + " is wrong", x.play(0, 1 << f, 0, 0), EARLY);
      due("all others are", x.play(0, 255 - (1 << f), 0, 0), CALM);
    }
    due("goal(0)", x.goal(0), true);
    due("nothing must be right", x.play(0, 255, 0, 0), CALM);
    due("goal(255)", x.goal(255), true);
    for (int f = 0; f < 8; f++) due("fact " + f + " is wrong", x.play(0, 1 << f, 0, 0), EARLY);
    sentence("5: those that there aren't are of no matter");
    NightBook y = with(house(1, 0), "calm");
    due("goal(254)", y.goal(254), true);
    due("none of them is there", y.play(0, 255, 0, 0), CALM);
    due("goal(129)", y.goal(129), true);
    due("fact 0 is", y.play(0, 255, 0, 0), EARLY);
    due("and right", y.play(0, 254, 0, 0), CALM);
  }

  // ---- texts

  private static void tape() {
    sentence("6: Twenty bytes come behind THE TAPE, of each number the highest first");
    NightBook x = with(new NightBook(), "wait 7;wait 8;wait 9");
    for (int k = 0; k < 3; k++) due("step(0, " + k + ", 1)", x.step(0, k, 1), 7 + k);
    for (int place = 0; place < 20; place++) {
      char[] text = " \n  \n   \n    \n      ".toCharArray();
      text[place] = 255;
      fault(0, 0, new String(text), 1, place);
      text[place] = 128;
      fault(0, 0, new String(text), 1, place);
    }
    sentence("6: how many it has");
    x = new NightBook();
    for (int i = 1; i <= 29; i++) {
      due("feed", x.feed(0x20202020, 0x20202020, 0x20202020, 0x20202020, 0x20202020), 20 * i);
      due("count(5)", x.count(5), 20 * i);
    }
    due("the feed up to 600", x.feed(0x20202020, 0x20202020, 0x20202020, 0x2063616c, 0x6d0a3b3b), 600);
    sentence("6: NONE, and none comes, if there would be more than 600");
    for (int i = 0; i < 2; i++) {
      due("a feed beyond 600", x.feed(0x3b3b3b3b, 0x3b3b3b3b, 0x3b3b3b3b, 0x3b3b3b3b, 0x3b3b3b3b), NONE);
      due("count(5)", x.count(5), 600);
    }
    done(x, "the tape is as it was", x.book(598), 0);
    due("a feed to the empty tape", x.feed(0, 0, 0, 0, 0), 20);
    sentence("II: THE TAPE has 600 bytes");
    with(new NightBook(), times(596, " ", "") + "calm");
    fault(0, 0, times(595, "\n", "") + "calm;", 1, 600);
    fault(0, 0, times(595, " ", "") + "calm~", 1, 599);
    fault(0, 0, times(600, " ", ""), 1, 600);
  }

  private static void bookNumbers() {
    sentence("7: NONE: 2 (THE TAPE stays)");
    NightBook x = new NightBook();
    for (int n : new int[] {1, -1, 20, 600, 601, LEAST, MOST}) refused(x, "book(" + n + ") of an empty tape", x.book(n), NUMBER);
    feed(x, "wait 1;wait 2;calm~~");
    for (int n : new int[] {21, -1, 600, 601, LEAST, MOST}) {
      refused(x, "book(" + n + ") of 20 bytes", x.book(n), NUMBER);
      due("count(5)", x.count(5), 20);
      due("count(3)", x.count(3), 0);
    }
    done(x, "book(18) of what stayed", x.book(18), 0);
    due("steps(0)", x.steps(0), 3);
    sentence("7: The first n bytes of THE TAPE (it is empty then)");
    due("count(5)", x.count(5), 0);
    feed(x, "wait 1;wait 2;wait 3");
    done(x, "all 20 bytes", x.book(20), 1);
    due("steps(1)", x.steps(1), 3);
    due("count(5)", x.count(5), 0);
    feed(x, "calm;calm");
    done(x, "4 of 20 bytes", x.book(4), 2);
    due("steps(2)", x.steps(2), 1);
    refused(x, "what was behind them is gone", x.book(1), NUMBER);
    feed(x, "calm");
    refused(x, "0 of 20 bytes", x.book(0), FAULT);
    due("where()", x.where(), 0);
    due("the tape is empty behind a fault", x.count(5), 0);
    refused(x, "0 of no bytes", x.book(0), FAULT);
    due("where()", x.where(), 0);
  }

  private static void fourBooks() {
    sentence("I, 7: BOOKS 4; its number; NONE: 3");
    NightBook x = with(house(1, 1, 1), "wait 1", "wait 2;wait 2", "wait 3;wait 3;wait 3", "wait 4;wait 4;wait 4;wait 4");
    refused(x, "a fifth book", book(x, "calm;calm"), ROOM);
    due("count(3)", x.count(3), 4);
    due("the tape is empty", x.count(5), 0);
    due("fault()", x.fault(), 0);
    due("where()", x.where(), NONE);
    for (int b = 0; b < 4; b++) {
      due("steps(" + b + ")", x.steps(b), b + 1);
      due("step(" + b + ", 0, 1)", x.step(b, 0, 1), b + 1);
      went(x, "play(" + b + ")", x.play(b, 0, 0, 0), OVER, (b + 1) * (b + 1), b + 1, 0, b + 1);
    }
    sentence("7: NONE: 2; 4; 3 (in this order)");
    refused(x, "a fifth with a fault", book(x, "calm;"), FAULT);
    due("fault()", x.fault(), 1);
    due("where()", x.where(), 5);
    feed(x, "calm;");
    refused(x, "a fifth of too many bytes", x.book(21), NUMBER);
    due("the tape stays", x.count(5), 20);
    refused(x, "a fifth without a fault", x.book(4), ROOM);
    for (int b = 0; b < 4; b++) due("steps(" + b + ")", x.steps(b), b + 1);
    due("steps(4)", x.steps(4), NONE);
  }

  private static void blanks() {
    sentence("II: blanks, 32, and 10s part TOKENS and mean nothing else");
    taken(1, 1, " calm");
    taken(1, 1, "\ncalm");
    taken(1, 1, "calm ");
    taken(1, 1, "calm\n");
    taken(1, 1, "  \n\n calm \n ;\n\n  calm  ");
    taken(1, 1, "do0right0takes1if0harm;ask0then0else1;wait9;go0;calm");
    taken(1, 1, "do\n0\nright\n0\ntakes\n1\nif\n0\nharm");
    for (int b = 0; b < 256; b++) {
      boolean begins = b == 32 || b == 10;
      if (begins) taken(0, 0, "calm" + (char) b);
      else if (b < 'a' || b > 'z') fault(0, 0, "calm" + (char) b, 1, b == ';' ? 5 : 4);
      else fault(0, 0, "calm" + (char) b, 1, 0);
    }
    sentence("II: the first byte that begins no TOKEN");
    for (int b = 0; b < 256; b++) {
      if (b == 32 || b == 10) taken(0, 0, (char) b + "calm");
      else fault(0, 0, (char) b + " calm", 1, 0);
      if (b == 32 || b == 10) fault(0, 0, "wait" + (char) b, 1, 5);
      else if (b >= '1' && b <= '9') taken(0, 0, "wait" + (char) b);
      else if (b >= 'a' && b <= 'z') fault(0, 0, "wait" + (char) b, 1, 0);
      else fault(0, 0, "wait" + (char) b, b == '0' ? 2 : 1, 4);
    }
  }

  private static void tokens() {
    sentence("II: WORDS of 1 to 8 small letters that stand together");
    fault(0, 0, "c", 1, 0);
    fault(0, 0, "z", 1, 0);
    fault(0, 0, "c alm", 1, 0);
    fault(0, 0, "calm\ncalm", 1, 5);
    fault(0, 0, "calmcalm", 1, 0);
    fault(0, 0, "calmcalmx", 1, 0);
    fault(0, 0, "cal", 1, 0);
    fault(0, 0, "calms", 1, 0);
    fault(0, 0, "calm;calm calmcalmcalm", 1, 10);
    fault(0, 0, "CALM", 1, 0);
    fault(0, 0, "waitwait 5", 1, 0);
    sentence("II: NUMBERS of 1 to 2 digits that do");
    for (String number : new String[] {"1", "9", "01", "09", "10", "60"}) taken(0, 0, "wait " + number);
    for (String number : new String[] {"001", "010", "060", "100", "1000", "0000000001", "4294967297", "99999999999999999999"}) {
      fault(0, 0, "wait " + number, 1, 5);
    }
    fault(0, 0, "wait 1 0", 1, 7);
    fault(0, 0, "wait 1\n0", 1, 7);
    fault(0, 0, "wait -1", 1, 5);
    fault(0, 0, "wait 1.", 1, 6);
    fault(0, 0, "wait 1/", 1, 6);
    fault(0, 0, "wait 1:", 1, 6);
    sentence("II: NUMBERS, their digits 0 to 9");
    for (int ticks = 1; ticks <= 60; ticks++) {
      NightBook x = with(new NightBook(), "wait " + ticks);
      due("step(0, 0, 1)", x.step(0, 0, 1), ticks);
    }
  }

  /** Cuts a whole text behind each of its tokens but the last, and puts what cannot stand there for each token. */
  private static void cutAndSpoil(String text, int optionalFrom) {
    String[] tokens = text.split(" ");
    int at = 0;
    for (int i = 0; i < tokens.length; i++) {
      String ahead = text.substring(0, at);
      if (i != optionalFrom) {
        fault(1, 1, ahead, 1, at);
        fault(1, 1, ahead + "\n ", 1, at + 2);
        fault(1, 1, ahead + "; calm", 1, at);
      }
      boolean number = Character.isDigit(tokens[i].charAt(0));
      fault(1, 1, ahead + (number ? "calm" : "0"), 1, at);
      fault(1, 1, ahead + "x", 1, at);
      fault(1, 1, ahead + (number ? "000" : "00"), 1, at);
      fault(1, 1, ahead + "~", 1, at);
      at += tokens[i].length() + 1;
    }
    taken(1, 1, text);
    taken(1, 1, text + " ");
    taken(1, 1, text + ";calm");
    fault(1, 1, text + " calm", 1, text.length() + 1);
    fault(1, 1, text + " 0", 1, text.length() + 1);
    fault(1, 1, text + " x", 1, text.length() + 1);
    fault(1, 1, text + " x;calm", 1, text.length() + 1);
    fault(1, 1, text + " ;", 1, text.length() + 2);
  }

  private static void forms() {
    sentence("II: TEXT: STEP {; STEP}");
    fault(1, 1, "", 1, 0);
    fault(1, 1, " ", 1, 1);
    fault(1, 1, "\n\n\n", 1, 3);
    fault(1, 1, ";", 1, 0);
    fault(1, 1, ";calm", 1, 0);
    fault(1, 1, "calm;", 1, 5);
    fault(1, 1, "calm; \n", 1, 7);
    fault(1, 1, "calm;;calm", 1, 5);
    fault(1, 1, "calm calm", 1, 5);
    fault(1, 1, "0", 1, 0);
    for (String word : new String[] {"then", "else", "right", "wrong", "takes", "if", "harm", "end", "d", "a"}) {
      fault(1, 1, word, 1, 0);
      fault(1, 1, "calm;" + word, 1, 5);
    }
    sentence("II: STEP: do NUMBER right NUMBER takes NUMBER [if NUMBER harm]");
    cutAndSpoil("do 0 right 0 takes 1", -1);
    cutAndSpoil("do 0 right 0 takes 1 if 0 harm", 6);
    fault(1, 1, "do 0 right 0 takes 1 harm", 1, 21);
    fault(1, 1, "do 0 right 0 takes 1 if 0 harm if 0 harm", 1, 31);
    sentence("II: STEP: do NUMBER wrong NUMBER takes NUMBER [if NUMBER harm]");
    cutAndSpoil("do 0 wrong 0 takes 1", -1);
    cutAndSpoil("do 0 wrong 0 takes 1 if 0 harm", 6);
    sentence("II: STEP: ask NUMBER then NUMBER else NUMBER");
    cutAndSpoil("ask 0 then 0 else 0", -1);
    fault(1, 1, "ask 0 else 0 then 0", 1, 6);
    fault(1, 1, "ask 0 then 0 else 0 if 0 harm", 1, 20);
    sentence("II: STEP: wait NUMBER");
    cutAndSpoil("wait 1", -1);
    fault(1, 1, "wait 1 if 0 harm", 1, 7);
    sentence("II: STEP: go NUMBER");
    cutAndSpoil("go 0", -1);
    sentence("II: STEP: calm");
    cutAndSpoil("calm", -1);
  }

  private static void numbers() {
    sentence("II: 2 a NUMBER beyond what it may be (SKILL 0 .. 7); at it");
    taken(1, 1, "do 0 right 0 takes 1");
    taken(1, 1, "do 7 right 0 takes 1");
    taken(1, 1, "do 07 wrong 0 takes 1");
    for (int skill : new int[] {8, 9, 10, 99}) fault(1, 1, "do " + skill + " right 0 takes 1", 2, 3);
    fault(1, 1, "do  \n8 left", 2, 5);
    sentence("II: 2 a NUMBER beyond what it may be (FACT that there is); at it");
    for (int facts = 0; facts <= 8; facts++) {
      if (facts > 0) taken(facts, 0, "do 0 right " + (facts - 1) + " takes 1 if " + (facts - 1) + " harm;do 0 wrong 0 takes 1 if 0 harm");
      fault(facts, 0, "do 0 right " + facts + " takes 1", 2, 11);
      fault(facts, 0, "do 0 wrong " + facts + " takes 1", 2, 11);
      if (facts > 0) fault(facts, 0, "do 0 right 0 takes 1 if " + facts + " harm", 2, 24);
      fault(facts, 0, "do 0 right 99 takes 1", 2, 11);
    }
    sentence("II: 2 a NUMBER beyond what it may be (SIGN that there is); at it");
    for (int signs = 0; signs <= 8; signs++) {
      if (signs > 0) taken(1, signs, "ask " + (signs - 1) + " then 0 else 0;ask 0 then 0 else 0");
      fault(1, signs, "ask " + signs + " then 0 else 0", 2, 4);
      fault(1, signs, "ask 99 then 0 else 0", 2, 4);
    }
    sentence("II: in so many TICKS (1 .. 60)");
    for (int ticks : new int[] {1, 60}) {
      NightBook x = with(house(1, 0, 1), "do 0 right 0 takes " + ticks, "do 0 wrong 0 takes " + ticks);
      for (int b = 0; b < 2; b++) went(x, "play", x.play(b, 0, 0, 0), OVER, ticks, 1, b, 1);
    }
    for (int ticks : new int[] {0, 61, 99}) {
      fault(1, 0, "do 0 right 0 takes " + ticks, 2, 19);
      fault(1, 0, "do 0 wrong 0 takes " + ticks, 2, 19);
    }
    fault(1, 0, "do 0 right 0 takes 00", 2, 19);
    sentence("II: wait NUMBER: so many TICKS (1 .. 60)");
    for (int ticks : new int[] {1, 60}) {
      NightBook x = with(new NightBook(), "wait " + ticks);
      went(x, "play", x.play(0, 0, 0, 0), OVER, ticks, 1, 0, 1);
    }
    for (int ticks : new int[] {0, 61, 99}) fault(0, 0, "wait " + ticks, 2, 5);
    fault(0, 0, "wait 00", 2, 5);
  }

  private static void faultOrder() {
    sentence("II: FAULTS, the first that is met from the left");
    fault(1, 1, "do 8 right 1 takes 0", 2, 3);
    fault(1, 1, "do 7 right 1 takes 0", 2, 11);
    fault(1, 1, "do 7 right 0 takes 0 if 1 harm", 2, 19);
    fault(1, 1, "do 7 right 0 takes 1 if 1 harms", 2, 24);
    fault(1, 1, "do 8 ~", 2, 3);
    fault(1, 1, "do ~ 8", 1, 3);
    fault(1, 1, "wait 0;wait", 2, 5);
    fault(1, 1, "wait;wait 0", 1, 4);
    sentence("II: of one place the least number");
    fault(1, 1, "wait 000", 1, 5);
    fault(1, 1, "wait 061", 1, 5);
    fault(1, 1, "do 800 right 0 takes 1", 1, 3);
    sentence("II: (the end: its place)");
    NightBook x = new NightBook();
    feed(x, "calm;calm;calm;calm");
    refused(x, "book(5)", x.book(5), FAULT);
    due("where()", x.where(), 5);
    feed(x, "wait 12;calm");
    refused(x, "book(4)", x.book(4), FAULT);
    due("where()", x.where(), 4);
    feed(x, "wait 12;calm");
    done(x, "a number cut by the end", x.book(6), 0);
    due("step(0, 0, 1)", x.step(0, 0, 1), 1);
    feed(x, "wait 1;calm");
    refused(x, "a word cut by the end", x.book(10), FAULT);
    due("where()", x.where(), 7);
  }

  private static void manySteps() {
    String most = times(24, "calm", ";");
    sentence("I: 24 STEPS");
    for (int size = 1; size <= 24; size++) {
      NightBook x = with(new NightBook(), times(size, "wait 1", ";"));
      due("steps(0)", x.steps(0), size);
      went(x, "play", x.play(0, 0, 0, 0), OVER, size, size, 0, size);
    }
    sentence("II: 3 MANY: a 25th STEP; at its first TOKEN");
    fault(1, 1, most + ";calm", 3, 120);
    fault(1, 1, most + " \n; \n do", 3, 125);
    for (String begins : new String[] {"do", "ask", "wait", "go", "calm", "do 9", "ask 9", "wait 0", "go 99", "calm ~"}) {
      fault(1, 1, most + ";" + begins, 3, 120);
    }
    fault(1, 1, times(24, "go 24", ";") + ";calm", 3, 144);
    fault(1, 1, times(100, "calm", ";"), 3, 120);
    sentence("II: MANY, if it may stand there (else 1)");
    for (String begins : new String[] {"", "~", "0", ";", "calms", "cal", "if", "then", "right", "Calm", "calmcalmcalm"}) {
      fault(1, 1, most + ";" + begins, 1, 120);
    }
    fault(1, 1, most + ";  ", 1, 122);
    fault(1, 1, most + " calm", 1, 120);
    taken(1, 1, most + "  \n");
  }

  private static void targets() {
    sentence("II: Behind a whole text without these the first NUMBER of a STEP, from the left, that there isn't in it: 2, at it");
    for (int size = 1; size <= 24; size++) {
      String rest = size == 1 ? "" : ";" + times(size - 1, "calm", ";");
      taken(1, 1, "go " + (size - 1) + rest);
      taken(1, 1, "ask 0 then 0 else " + (size - 1) + rest);
      taken(1, 1, "ask 0 then " + (size - 1) + " else 0" + rest);
      fault(1, 1, "go " + size + rest, 2, 3);
      fault(1, 1, "ask 0 then 0 else " + size + rest, 2, 18);
      fault(1, 1, "ask 0 then " + size + " else 0" + rest, 2, 11);
    }
    fault(1, 1, "go 99", 2, 3);
    fault(1, 1, "go 0;go 4;go 2;go 3", 2, 8);
    fault(1, 1, "calm;ask 0 then 1 else 2", 2, 23);
    fault(1, 1, "ask 0 then 9 else 8;go 7", 2, 11);
    fault(1, 1, times(23, "go 23", ";") + ";go 24", 2, 141);
    fault(1, 1, times(23, "ask 0 then 0 else 0", ";") + ";ask 0 then 0 else 24", 2, 478);
    taken(1, 1, times(23, "ask 0 then 23 else 23", ";") + ";ask 0 then 0 else 23");
    fault(1, 1, "go 9;wait 0", 2, 10);
    fault(1, 1, "go 9;calm;", 1, 10);
    fault(1, 1, "go 99;calm;", 1, 11);
    fault(1, 1, "go 24;wait 0", 2, 11);
    fault(1, 1, "go 99;wait 0", 2, 11);
    fault(1, 1, "ask 0 then 99 else 99", 2, 11);
    fault(1, 1, "ask 0 then 99 else 99;", 1, 22);
    fault(1, 1, "ask 0 then 0 else 99;calm calm", 1, 26);
    fault(1, 1, "go 9;" + times(24, "calm", ";"), 3, 120);
  }

  private static void faultAndWhere() {
    sentence("8: The FAULT of the latest book() not refused by 2; 0 without one");
    NightBook x = house(1, 1);
    due("ahead of any", x.fault(), 0);
    x.book(1);
    due("behind a 2 alone", x.fault(), 0);
    int[] faults = {1, 2, 3};
    String[] texts = {"calm;", "wait 0", times(25, "calm", ";")};
    for (int i = 0; i < 3; i++) {
      book(x, texts[i]);
      due("fault()", x.fault(), faults[i]);
      x.book(601);
      due("behind a 2", x.fault(), faults[i]);
      x.fact();
      x.play(9, 0, 0, 0);
      due("behind other calls", x.fault(), faults[i]);
    }
    book(x, "calm");
    due("behind a whole text", x.fault(), 0);
    for (int i = 0; i < 3; i++) book(x, "calm");
    book(x, "go");
    due("of a fifth text", x.fault(), 1);
    book(x, "calm");
    due("of a fifth text for which there is no room", x.fault(), 0);
  }

  private static void whereBehind() {
    sentence("9: Its place, if the latest call that may be refused was by 4; NONE else");
    due("ahead of any", new NightBook().where(), NONE);
    NightBook x = with(house(1, 1, 1), "calm", "go 0");
    x.play(0, 0, 0, 0);
    for (int call = 0; call < 22; call++) {
      book(x, "calm ~");
      due("where()", x.where(), 5);
      due("again", x.where(), 5);
      mayBeRefused(x, call);
      due("where() behind call " + call + " that may be refused", x.where(), NONE);
      due("fault()", x.fault(), 1);
    }
    book(x, "calm ~");
    x.fault(); x.steps(0); x.steps(9); x.step(0, 0, 0); x.step(9, 9, 9); x.path(0); x.path(-1); x.ended(0); x.ended(9);
    x.allOf(0); x.allOf(9); x.idle(0); x.idle(9); x.look(0, 0); x.look(9, 9); x.mend(0); x.mend(9); x.night(true, 0);
    x.night(false, 9); x.clear(); x.apart(true); x.count(0); x.count(9); x.trouble();
    due("where() behind calls that are never refused", x.where(), 5);
  }

  private static void mayBeRefused(NightBook x, int call) {
    switch (call) {
      case 0 -> x.fact();
      case 1 -> x.sign(0);
      case 2 -> x.sign(99);
      case 3 -> x.person(0);
      case 4 -> x.person(-1);
      case 5 -> x.goal(255);
      case 6 -> x.goal(-1);
      case 7 -> x.book(-1);
      case 8 -> x.play(0, 0, 0, 0);
      case 9 -> x.play(9, 0, 0, 0);
      case 10 -> x.played(0);
      case 11 -> x.mends();
      case 12 -> x.all(1, 0, 0, 0, 0);
      case 13 -> x.all(9, 0, 0, 0, 0);
      case 14 -> x.mends();
      case 15 -> x.nights(0, 0, 0, 0, 0, 0, 0);
      case 16 -> x.nights(9, 0, 0, 0, 0, 0, 0);
      case 17 -> x.log(0);
      case 18 -> x.log(-1);
      case 19 -> x.laid();
      case 20 -> x.differ(0, 1, 0, 0, 0, 0);
      default -> x.differ(0, 9, 0, 0, 0, 0);
    }
  }

  private static void readBooks() {
    NightBook x = house(8, 8, 1);
    for (int b = 0; b < 4; b++) {
      sentence("10: How many STEPS a BOOK has; NONE");
      for (int none : new int[] {-1, b, b + 1, 4, LEAST, MOST}) due("steps(" + none + ")", x.steps(none), NONE);
      with(x, b == 3 ? times(24, "wait 60", ";") : "do 7 right 7 takes 60 if 7 harm;do 0 wrong 0 takes 1 if 0 harm;do 1 wrong 2 takes 3;ask 7 then 5 else 0;wait 9;go 6;calm");
      due("steps(" + b + ")", x.steps(b), b == 3 ? 24 : 7);
    }
    sentence("11: Of STEP k of a BOOK what 0 .. 4; 0 where there is nothing else");
    int[][] want = {{0, 7, 7, 60, 7}, {1, 0, 0, 1, 0}, {1, 1, 2, 3, -1}, {2, 7, 5, 0, -1}, {3, 9, 0, 0, -1}, {4, 6, 0, 0, -1}, {5, 0, 0, 0, -1}};
    for (int b = 0; b < 3; b++) {
      for (int k = 0; k < 7; k++) {
        for (int what = 0; what < 5; what++) due("step(" + b + ", " + k + ", " + what + ")", x.step(b, k, what), want[k][what]);
      }
    }
    int[] wait = {3, 60, 0, 0, -1};
    for (int k = 0; k < 24; k++) for (int what = 0; what < 5; what++) due("step(3, " + k + ", " + what + ")", x.step(3, k, what), wait[what]);
    sentence("11: 0 where there is nothing else (nor of a text that was refused)");
    NightBook y = house(2, 2);
    book(y, "do 7 right 1 takes 60 if 1 harm;ask 1 then 1 else 1;do 7 right 1 takes 60 if 1 harm;do 7 right 1 takes 60 if 1 harm;go 9");
    with(y, "wait 5;calm;go 1;ask 0 then 0 else 0");
    int[][] rest = {{3, 5, 0, 0, -1}, {5, 0, 0, 0, -1}, {4, 1, 0, 0, -1}, {2, 0, 0, 0, -1}};
    for (int k = 0; k < 4; k++) for (int what = 0; what < 5; what++) due("step(0, " + k + ", " + what + ")", y.step(0, k, what), rest[k][what]);
    due("steps(0)", y.steps(0), 4);
    sentence("11: NONE");
    for (int what : new int[] {-1, 5, LEAST, MOST}) due("step(0, 0, " + what + ")", x.step(0, 0, what), NONE);
    for (int k : new int[] {-1, 7, 24, LEAST, MOST}) due("step(0, " + k + ", 0)", x.step(0, k, 0), NONE);
    for (int k : new int[] {-1, 24, 25, LEAST, MOST}) due("step(3, " + k + ", 0)", x.step(3, k, 0), NONE);
    for (int b : new int[] {-1, 4, 5, LEAST, MOST}) due("step(" + b + ", 0, 0)", x.step(b, 0, 0), NONE);
  }

  // ---- plays

  private static void playNumbers() {
    sentence("12: NONE: 1");
    NightBook x = house(1, 1, 1);
    refused(x, "play(0) without books", x.play(0, 0, 0, 0), NONE_SUCH);
    with(x, "calm");
    for (int b : new int[] {-1, 1, 4, LEAST, MOST}) {
      refused(x, "play(" + b + ")", x.play(b, 0, 0, 0), NONE_SUCH);
      refused(x, "play(" + b + ") with other wrong numbers: 1 comes first", x.play(b, 256, -1, 256), NONE_SUCH);
    }
    sentence("12: NONE: 2 (FACTS, SIGNS, PEOPLE as bits 0 .. 255)");
    for (int bits : NO_BITS) {
      refused(x, "wrong " + bits, x.play(0, bits, 0, 0), NUMBER);
      refused(x, "lies " + bits, x.play(0, 0, bits, 0), NUMBER);
      refused(x, "away " + bits, x.play(0, 0, 0, bits), NUMBER);
    }
    done(x, "play(0, 0, 0, 0)", x.play(0, 0, 0, 0), CALM);
    done(x, "play(0, 255, 255, 255)", x.play(0, 255, 255, 255), EARLY);
    sentence("12: FACTS, SIGNS, PEOPLE: those that there aren't are of no matter");
    NightBook y = with(house(1, 1, 1), "ask 0 then 1 else 2;do 0 right 0 takes 5;calm");
    went(y, "none that there is", y.play(0, 254, 254, 254), CALM, 1, 2, 0, 2);
    went(y, "the fact too", y.play(0, 255, 254, 254), CALM, 6, 3, 0, 2);
    NightBook z = with(house(8, 8, 0, 0, 0, 1), "ask 7 then 1 else 2;do 0 right 7 takes 5;calm");
    went(z, "the last fact", z.play(0, 128, 0, 0), CALM, 6, 3, 0, 2);
    went(z, "the last sign lies", z.play(0, 0, 128, 0), CALM, 6, 3, 0, 2);
    went(z, "both", z.play(0, 128, 128, 0), EARLY, 1, 2, 128, 2);
    went(z, "the last one is away", z.play(0, 128, 0, 8), STUCK, 1, 2, 128, 1);
    went(z, "away are those that there aren't", z.play(0, 128, 0, 240), CALM, 6, 3, 0, 2);
  }

  private static void ends() {
    NightBook x = with(house(2, 1, 1), "calm", "wait 2;calm", "do 1 right 0 takes 3;calm", "do 0 right 0 takes 3 if 1 harm;calm");
    sentence("III: It begins at STEP 0; 0 CALM: at a calm with all FACTS of the GOAL right");
    went(x, "calm at once", x.play(0, 0, 0, 0), CALM, 0, 1, 0, 0);
    x.goal(2);
    went(x, "a fact beside the goal is wrong", x.play(1, 1, 0, 0), CALM, 2, 2, 1, 1);
    sentence("III: 1 EARLY: at a calm without");
    went(x, "one of the goal is wrong", x.play(1, 2, 0, 0), EARLY, 2, 2, 2, 1);
    x.goal(255);
    went(x, "one of two is wrong", x.play(0, 2, 0, 0), EARLY, 0, 1, 2, 0);
    sentence("III: 2 STUCK: a do that nobody can");
    went(x, "nobody has the skill", x.play(2, 1, 0, 0), STUCK, 0, 1, 1, 0);
    went(x, "he is away", x.play(3, 1, 0, 1), STUCK, 0, 1, 1, 0);
    sentence("III: (STUCK is asked ahead of HARM)");
    went(x, "nobody, and harm", x.play(3, 0, 0, 1), STUCK, 0, 1, 0, 0);
    sentence("II, III: 3 HARM if that FACT is right when it begins (nothing is done then, and no TICK goes)");
    went(x, "fact 1 is right", x.play(3, 1, 0, 0), HARM, 0, 1, 1, 0);
    went(x, "fact 1 is wrong", x.play(3, 3, 0, 0), EARLY, 3, 2, 2, 1);
    NightBook y = with(house(8, 0, 1), "do 0 right 0 takes 1 if 7 harm;do 0 wrong 7 takes 2 if 0 harm;calm",
        "do 0 right 7 takes 1 if 7 harm;do 0 wrong 0 takes 2 if 7 harm;calm");
    went(y, "the last fact is right", y.play(0, 127, 0, 0), HARM, 0, 1, 127, 0);
    went(y, "the first fact becomes right", y.play(0, 129, 0, 0), HARM, 1, 2, 128, 1);
    went(y, "its own fact is wrong when it begins", y.play(1, 128, 0, 0), HARM, 1, 2, 0, 1);
    sentence("III: 5 OVER: behind the last STEP");
    with(y, "wait 3", "do 0 right 7 takes 1;do 0 wrong 0 takes 2");
    went(y, "one step", y.play(2, 0, 0, 0), OVER, 3, 1, 0, 1);
    went(y, "two steps", y.play(3, 128, 0, 0), OVER, 3, 2, 1, 2);
  }

  private static void rounds() {
    sentence("III: 4 ROUND: a STEP is come to with the FACTS as they were when it was come to before");
    NightBook x = with(house(1, 1, 1), "go 0", "go 1;go 0", "ask 0 then 0 else 0", "wait 1;ask 0 then 0 else 0");
    went(x, "at STEP 0 at once", x.play(0, 0, 0, 0), ROUND, 0, 2, 0, 0);
    path(x, 0, 0);
    went(x, "of two", x.play(1, 1, 0, 0), ROUND, 0, 3, 1, 0);
    path(x, 0, 1, 0);
    went(x, "of an ask", x.play(2, 0, 0, 0), ROUND, 1, 2, 0, 0);
    went(x, "behind ticks", x.play(3, 0, 0, 0), ROUND, 2, 3, 0, 0);
    for (int f = 0; f < 8; f++) {
      NightBook y = with(house(8, 8, 1), "wait 2;do 0 wrong " + f + " takes 1;go 0", "wait 2;do 0 right " + f + " takes 1;go 0");
      went(y, "fact " + f + " became wrong in the meantime", y.play(0, 0, 0, 0), ROUND, 6, 6, 1 << f, 2);
      went(y, "it was so", y.play(0, 1 << f, 0, 0), ROUND, 3, 4, 1 << f, 0);
      went(y, "fact " + f + " became right in the meantime", y.play(1, 255, 0, 0), ROUND, 6, 6, 255 - (1 << f), 2);
      went(y, "it was so", y.play(1, 255 - (1 << f), 0, 0), ROUND, 3, 4, 255 - (1 << f), 0);
    }
    NightBook z = with(house(1, 1, 1), "do 0 wrong 0 takes 1;do 0 right 0 takes 1;go 0");
    went(z, "not only when it was come to the last time", z.play(0, 0, 0, 0), ROUND, 2, 4, 0, 0);
    went(z, "the first step once, the second twice", z.play(0, 1, 0, 0), ROUND, 3, 5, 1, 1);
    sentence("III: ROUND (a play begins anew: what an earlier one came to is of no matter)");
    NightBook w = with(house(1, 0, 1), "wait 1;calm");
    for (int i = 0; i < 3; i++) went(w, "play", w.play(0, 0, 0, 0), CALM, 1, 2, 0, 1);
    w.play(0, 1, 0, 0);
    went(w, "play", w.play(0, 0, 0, 0), CALM, 1, 2, 0, 1);
  }

  /** 24 steps whose play takes 4,991 ticks ahead of STEP 23, which is the last. */
  private static String upToTheEnd(String last) {
    return counter(5, 60, 21) + ";go 23;wait 39;go 0;" + last;
  }

  private static void longPlays() {
    NightBook x = with(house(8, 8, 1), upToTheEnd("wait 9"), upToTheEnd("wait 10"), upToTheEnd("do 0 wrong 7 takes 10"), upToTheEnd("calm"));
    sentence("I: A PLAY has 5,000 TICKS at most");
    due("5,000 ticks", x.play(0, 0, 0, 0), OVER);
    due("played(0)", x.played(0), 5000);
    due("played(3)", x.played(3), 24);
    sentence("III: 6 LONG: with more than 5,000 TICKS (asked behind each STEP)");
    due("5,001 ticks", x.play(1, 0, 0, 0), LONG);
    due("played(0)", x.played(0), 5001);
    due("played(2)", x.played(2), 0);
    due("5,001 ticks", x.play(2, 0, 0, 0), LONG);
    due("played(0)", x.played(0), 5001);
    due("the do is done, for it is asked behind it", x.played(2), 128);
    due("4,991 ticks", x.play(3, 0, 0, 0), CALM);
    NightBook y = with(house(8, 8, 1), counter(6, 60, 0), upToTheEnd("ask 7 then 20 else 20"));
    due("a counter of six bits", y.play(0, 0, 0, 0), LONG);
    due("no step more", y.played(0) > 5000 && y.played(0) <= 5060, true);
    due("the last that it came to", y.played(3), y.path(y.played(1) - 1));
    due("a round at 4,992", y.play(1, 0, 0, 0), ROUND);
    due("played(0)", y.played(0), 4992);
    sentence("III: 6 LONG, of ALL PLAYS");
    due("all", x.all(1, 0, 0, 0, 0), 1);
    due("ended(6)", x.ended(6), 1);
    due("allOf(6)", x.allOf(6), LONG);
    due("all", x.all(0, 0, 0, 0, 0), 1);
    due("ended(5)", x.ended(5), 1);
    due("all", x.all(3, 0, 0, 0, 0), 0);
    due("allOf(2)", x.allOf(2), 4991);
  }

  private static void playedNone() {
    sentence("13: NONE (5)");
    NightBook x = with(house(1, 1, 1), "wait 3;calm", "go 0");
    for (int what : new int[] {0, 1, 2, 3, 4, -1, LEAST, MOST}) {
      x.goal(255);
      refused(x, "played(" + what + ") ahead of any", x.played(what), NOT_PLAYED);
    }
    x.play(9, 0, 0, 0);
    x.play(0, 256, 0, 0);
    refused(x, "behind refused ones", x.played(0), NOT_PLAYED);
    x.all(0, 0, 0, 0, 0);
    x.nights(0, 0, 0, 0, 0, 0, 0);
    x.differ(0, 1, 0, 0, 0, 0);
    refused(x, "all(), nights(), differ() are no play()", x.played(0), NOT_PLAYED);
    sentence("13: Of the latest play() that told an END");
    went(x, "play", x.play(0, 1, 0, 0), EARLY, 3, 2, 1, 1);
    x.play(9, 0, 0, 0);
    x.play(0, 256, 0, 0);
    x.all(1, 0, 0, 0, 0);
    x.mends();
    x.nights(1, 0, 0, 1, 0, 0, 0);
    x.differ(1, 1, 0, 0, 0, 0);
    int[] stays = {3, 2, 1, 1};
    for (int what = 0; what < 4; what++) done(x, "played(" + what + ")", x.played(what), stays[what]);
    path(x, 0, 1);
    went(x, "the next play", x.play(1, 0, 0, 0), ROUND, 0, 2, 0, 0);
    sentence("13: what 0 .. 3 (another is none, and no refusal)");
    for (int what : new int[] {-1, 4, LEAST, MOST}) {
      x.goal(-1);
      done(x, "played(" + what + ")", x.played(what), NONE);
    }
    sentence("13: how many STEPS were come to (that of a ROUND again, too); (OVER: how many there are)");
    NightBook y = with(house(1, 0, 1), "wait 1;wait 1;go 1", times(24, "wait 1", ";"));
    went(y, "a round", y.play(0, 0, 0, 0), ROUND, 2, 4, 0, 1);
    path(y, 0, 1, 2, 1);
    went(y, "over", y.play(1, 0, 0, 0), OVER, 24, 24, 0, 24);
  }

  private static void paths() {
    sentence("14: The i-th STEP that it came to; NONE");
    NightBook x = with(house(1, 1, 1), "calm", "go 2;calm;wait 1;go 1", times(24, "wait 1", ";"));
    for (int i : new int[] {0, -1, 1999, 2000, LEAST, MOST}) due("path(" + i + ") ahead of any", x.path(i), NONE);
    x.play(0, 0, 0, 0);
    path(x, 0);
    x.play(1, 0, 0, 0);
    path(x, 0, 2, 3, 1);
    for (int i : new int[] {1999, 2000, LEAST, MOST}) due("path(" + i + ")", x.path(i), NONE);
    x.play(2, 0, 0, 0);
    due("the first of 24", x.path(0), 0);
    due("the last of 24", x.path(23), 23);
    due("OVER is no STEP", x.path(24), NONE);
    x.play(0, 0, 0, 0);
    path(x, 0);
    sentence("14: (up to the 2,000th)");
    // A register that shifts its bits: the longest play that was found, 1,794 STEPS of the 2,000.
    NightBook y = with(house(8, 8, 1), "do 0 right 3 takes 1;do 0 wrong 0 takes 1;ask 3 then 0 else 19;do 0 wrong 2 takes 1;"
        + "do 0 wrong 5 takes 1;ask 6 then 16 else 10;ask 5 then 3 else 4;do 0 wrong 7 takes 1;do 0 right 2 takes 1;ask 2 then 7 else 6;"
        + "do 0 wrong 6 takes 1;do 0 right 5 takes 1;ask 0 then 15 else 20;do 0 wrong 4 takes 1;do 0 right 6 takes 1;do 0 right 0 takes 1;"
        + "ask 0 then 14 else 2;do 0 right 1 takes 1;do 0 wrong 3 takes 1;ask 1 then 17 else 23;ask 2 then 14 else 13;do 0 wrong 1 takes 1;"
        + "do 0 right 7 takes 1;ask 7 then 21 else 9");
    went(y, "play", y.play(0, 0, 0, 0), ROUND, 1793, 1794, 218, 14);
    long sum = 0;
    for (int i = 1394; i < 1794; i++) sum += (long) i * y.path(i);
    due("the last 400 of them, each times its place", sum, 7336016);
    due("path(1793)", y.path(1793), 14);
    due("path(1794)", y.path(1794), NONE);
    due("path(1999)", y.path(1999), NONE);
    due("path(2000)", y.path(2000), NONE);
  }

  private static int some(int of, int most) {
    int sets = 0;
    for (int set = 0; set < 1 << of; set++) sets += Integer.bitCount(set) <= most ? 1 : 0;
    return sets;
  }

  private static void allNumbers() {
    NightBook x = house(2, 2, 1, 1);
    sentence("15: NONE: 1");
    refused(x, "all without books", x.all(0, 0, 0, 0, 0), NONE_SUCH);
    with(x, "calm");
    for (int b : new int[] {-1, 1, 4, LEAST, MOST}) {
      refused(x, "all(" + b + ")", x.all(b, 0, 0, 0, 0), NONE_SUCH);
      refused(x, "all(" + b + ") with other wrong numbers: 1 comes first", x.all(b, 256, 9, -1, 9), NONE_SUCH);
    }
    sentence("15: NONE: 2 (FACTS as bits 0 .. 255)");
    for (int bits : NO_BITS) refused(x, "facts " + bits, x.all(0, bits, 0, 0, 0), NUMBER);
    sentence("15: NONE: 2 (0 .. 8 each)");
    for (int most : NO_MOSTS) {
      refused(x, "wrongMost " + most, x.all(0, 0, most, 0, 0), NUMBER);
      refused(x, "liesMost " + most, x.all(0, 0, 0, most, 0), NUMBER);
      refused(x, "awayMost " + most, x.all(0, 0, 0, 0, most), NUMBER);
    }
    due("no all() has told a number", x.allOf(0), NONE);
    done(x, "0 of each", x.all(0, 255, 0, 0, 0), 0);
    due("allOf(0)", x.allOf(0), 1);
    done(x, "8 of each", x.all(0, 255, 8, 8, 8), 48);
    due("allOf(0)", x.allOf(0), 64);
    NightBook y = with(new NightBook(), "calm");
    done(y, "8 of each where nothing is there", y.all(0, 255, 8, 8, 8), 0);
    due("allOf(0)", y.allOf(0), 1);
  }

  private static void allChoices() {
    NightBook x = with(house(8, 8, 1, 1, 1, 1), "calm");
    sentence("III: up to so many FACTS wrong");
    for (int most = 0; most <= 8; most++) {
      due("wrongMost " + most, x.all(0, 255, most, 0, 0), some(8, most) - 1);
      due("allOf(0)", x.allOf(0), some(8, most));
    }
    sentence("III: so many SIGNS lying");
    for (int most = 0; most <= 8; most++) {
      due("liesMost " + most, x.all(0, 255, 0, most, 0), 0);
      due("allOf(0)", x.allOf(0), some(8, most));
    }
    sentence("III: so many PEOPLE AWAY");
    for (int most = 0; most <= 8; most++) {
      due("awayMost " + most, x.all(0, 255, 0, 0, most), 0);
      due("allOf(0)", x.allOf(0), some(4, most));
    }
    sentence("III, 15: FACTS wrong (of those told as bits)");
    for (int told : new int[] {0, 1, 128, 129, 127, 255}) {
      due("facts " + told, x.all(0, told, 1, 0, 0), Integer.bitCount(told));
      due("allOf(3)", x.allOf(3), told == 0 ? NONE : Integer.lowestOneBit(told));
    }
    NightBook y = with(house(1, 0), "calm");
    due("facts that there aren't", y.all(0, 254, 8, 0, 0), 0);
    due("allOf(0)", y.allOf(0), 1);
    due("and the one that there is", y.all(0, 255, 8, 0, 0), 1);
    due("allOf(0)", y.allOf(0), 2);
  }

  private static void allRoom() {
    sentence("III: ALL PLAYS of a BOOK (500 at most); 15: 3 (more than 500)");
    NightBook x = with(house(8, 8, 1, 1, 1, 1), "calm");
    int[][] taken = {{31, 4, 0, 4, 496}, {127, 4, 0, 1, 495}, {0, 0, 6, 0, 247}, {0, 0, 3, 1, 465}};
    for (int[] t : taken) {
      due("trouble() of " + t[4], x.all(0, t[0], t[1], t[2], t[3]) >= 0 ? x.trouble() : NONE, DONE);
      due("allOf(0)", x.allOf(0), t[4]);
    }
    // The least numbers above 500 that choices can make: 504, 508, 510, 512, 513.
    NightBook y = with(house(7, 8, 1, 1, 1), "calm");
    y.all(0, 127, 7, 0, 0);
    refused(y, "63 * 8 are 504", y.all(0, 63, 5, 0, 8), ROOM);
    refused(y, "8 * 9 * 7 are 504", y.all(0, 127, 1, 1, 2), ROOM);
    NightBook z = with(house(7, 8, 1, 1), "calm");
    refused(z, "127 * 4 are 508", z.all(0, 127, 6, 0, 2), ROOM);
    refused(z, "2 * 255 are 510", z.all(0, 1, 1, 7, 0), ROOM);
    refused(z, "2 * 256 are 512", z.all(0, 64, 1, 8, 0), ROOM);
    refused(x, "32 * 16 are 512", x.all(0, 31, 5, 0, 8), ROOM);
    refused(x, "as many as there are", x.all(0, 255, 8, 8, 8), ROOM);
    sentence("15: NONE: 1; 2; 3 (in this order)");
    refused(x, "too many of a book that there isn't", x.all(1, 255, 8, 8, 8), NONE_SUCH);
    refused(x, "too many with a wrong number", x.all(0, 255, 8, 9, 8), NUMBER);
    refused(x, "too many with wrong bits", x.all(0, 256, 8, 8, 8), NUMBER);
    sentence("16, 17: Of the latest all() that told a number");
    due("allOf(0)", x.allOf(0), 465);
    due("ended(0)", x.ended(0), 465);
    due("allOf(0)", y.allOf(0), 128);
    due("ended(1)", y.ended(EARLY), 127);
    due("allOf(0)", z.allOf(0), NONE);
  }

  /** The number of the play in which alone the asks of signs 0 to 2 tell so: the one CALM play with the most TICKS. */
  private static int numberOf(int wrong0, int wrong1, int wrong2, int wrongMost, int liesMost) {
    int[] tells = {wrong0, wrong1, wrong2};
    StringBuilder b = new StringBuilder();
    for (int i = 0; i < 3; i++) {
      b.append("ask ").append(i).append(" then ").append(tells[i] == 1 ? i + 1 : 4).append(" else ").append(tells[i] == 1 ? 4 : i + 1).append(';');
    }
    NightBook x = with(house(3, 3, 1), b + "wait 60;calm");
    x.goal(0);
    due("no play is bad", x.all(0, 255, wrongMost, liesMost, 0), 0);
    due("the most ticks", x.allOf(2), 63);
    return x.allOf(7);
  }

  private static void allOrder() {
    sentence("III: in order of how many choices there are in all, then of the bits as a number");
    int[] order = {0, 1, 2, 4, 3, 5, 6, 7};
    for (int i = 0; i < 8; i++) {
      int c = order[i];
      due("facts " + c, numberOf(c & 1, c >> 1 & 1, c >> 2, 3, 0), i);
      due("signs " + c, numberOf(c & 1, c >> 1 & 1, c >> 2, 0, 3), i);
    }
    sentence("III: the bits FACTS + 256 * SIGNS + 65,536 * PEOPLE as a number");
    NightBook x = with(house(1, 2, 1), "ask 0 then 2 else 1;calm;wait 1", "ask 1 then 3 else 1;do 0 right 0 takes 1;calm;wait 1",
        "ask 0 then 1 else 2;ask 1 then 4 else 2;do 0 right 0 takes 1;calm;wait 1", "wait 1");
    x.goal(0);
    firstBad(x, "a fact ahead of a lie", x.all(0, 1, 1, 2, 1), 8, 1, 0, 0, OVER);
    firstBad(x, "a lie", x.all(0, 0, 1, 2, 1), 4, 0, 1, 0, OVER);
    firstBad(x, "a lie of sign 1 ahead of one away", x.all(1, 0, 1, 2, 1), 6, 0, 2, 0, OVER);
    firstBad(x, "one away", x.all(1, 0, 1, 0, 1), 1, 0, 0, 1, STUCK);
    firstBad(x, "one away ahead of two lies", x.all(2, 0, 0, 2, 1), 5, 0, 0, 1, STUCK);
    firstBad(x, "nothing ahead of all else", x.all(3, 1, 1, 2, 1), 16, 0, 0, 0, OVER);
  }

  private static void firstBad(NightBook x, String call, int bad, int... want) {
    due(call, bad, want[0]);
    for (int what = 3; what <= 6; what++) due("allOf(" + what + ") behind " + call, x.allOf(what), want[what - 2]);
  }

  private static void endedAndAllOf() {
    sentence("16: how many ended by an END (0 .. 6); NONE");
    NightBook x = with(house(8, 8, 1), "calm", "do 1 right 0 takes 1", "do 0 right 0 takes 1 if 0 harm", "go 0");
    for (int end : new int[] {0, 1, 2, 3, 4, 5, 6, -1, 7, LEAST, MOST}) due("ended(" + end + ") ahead of any", x.ended(end), NONE);
    NightBook y = with(house(8, 8, 1), "wait 1", upToTheEnd("wait 10"));
    int[] ends = {CALM, STUCK, HARM, ROUND, OVER, LONG};
    for (int i = 0; i < 6; i++) {
      NightBook z = i < 4 ? x : y;
      due("bad", z.all(i % 4, 0, 0, 0, 0), ends[i] == CALM ? 0 : 1);
      for (int end = 0; end < 7; end++) due("ended(" + end + ")", z.ended(end), end == ends[i] ? 1 : 0);
      for (int end : new int[] {-1, 7, LEAST, MOST}) due("ended(" + end + ")", z.ended(end), NONE);
    }
    x.all(0, 255, 8, 0, 0);
    due("ended(0)", x.ended(CALM), 1);
    due("ended(1)", x.ended(EARLY), 255);
    sentence("17: 1 the least TICKS of a CALM one (NONE), 2 the most of one (NONE), 7 its number; NONE");
    x.all(3, 255, 1, 0, 0);
    due("allOf(0)", x.allOf(0), 9);
    for (int what : new int[] {1, 2, 7}) due("allOf(" + what + ") without a calm one", x.allOf(what), NONE);
    sentence("17: 3 the first BAD PLAY's wrong FACTS, 4 its lies, 5 its AWAY, 6 its END (NONE without any)");
    int[] bad = {0, 0, 0, ROUND};
    for (int what = 3; what <= 6; what++) due("allOf(" + what + ") of nothing wrong", x.allOf(what), bad[what - 3]);
    x.all(0, 0, 8, 8, 0);
    due("allOf(0)", x.allOf(0), 256);
    for (int what = 3; what <= 6; what++) due("allOf(" + what + ") without a bad one", x.allOf(what), NONE);
  }

  private static void allOfEdges() {
    sentence("17: NONE");
    NightBook x = with(house(2, 2, 1), "ask 0 then 1 else 2;do 0 right 0 takes 5;ask 1 then 3 else 4;do 0 right 1 takes 5;calm", "wait 60;calm");
    for (int what : new int[] {0, 1, 2, 3, 4, 5, 6, 7, 8, -1, LEAST, MOST}) due("allOf(" + what + ") ahead of any", x.allOf(what), NONE);
    due("all", x.all(0, 3, 2, 0, 0), 0);
    for (int what : new int[] {8, -1, LEAST, MOST}) due("allOf(" + what + ")", x.allOf(what), NONE);
    sentence("17: the least TICKS of a CALM one, the most of one; 7 the first CALM one with the most TICKS, its number");
    due("allOf(1)", x.allOf(1), 2);
    due("allOf(2)", x.allOf(2), 12);
    due("allOf(7), the last one", x.allOf(7), 3);
    due("all", x.all(0, 3, 1, 0, 0), 0);
    due("allOf(2)", x.allOf(2), 7);
    due("allOf(7), the first of two", x.allOf(7), 1);
    due("all", x.all(1, 0, 0, 0, 1), 0);
    due("allOf(1)", x.allOf(1), 60);
    due("allOf(2)", x.allOf(2), 60);
    due("allOf(7), the first of all", x.allOf(7), 0);
    due("all", x.all(0, 3, 1, 0, 1), 2);
    due("a bad one with many ticks is of no matter", x.allOf(2), 7);
    due("allOf(3)", x.allOf(3), 1);
    due("allOf(5)", x.allOf(5), 1);
    NightBook z = with(house(1, 0), "calm");
    due("all", z.all(0, 1, 1, 0, 0), 1);
    due("no TICKS are TICKS too", z.allOf(1), 0);
    due("no TICKS are TICKS too", z.allOf(2), 0);
    due("allOf(7)", z.allOf(7), 0);
    z.all(0, 0, 0, 0, 0);
    due("what was of an earlier all() is gone", z.allOf(3), NONE);
    due("what was of an earlier all() is gone", z.ended(EARLY), 0);
  }

  // ---- what a book lacks

  private static void reached() {
    sentence("18: NONE");
    NightBook x = house(2, 1, 1, 128);
    for (int b : new int[] {0, -1, 4, LEAST, MOST}) due("idle(" + b + ") without books", x.idle(b), NONE);
    String calms = times(23, "calm", ";");
    with(x, "calm", "calm;" + calms, "go 23;" + calms, times(24, "wait 1", ";"));
    for (int b : new int[] {-1, 4, 5, LEAST, MOST}) due("idle(" + b + ")", x.idle(b), NONE);
    sentence("18, IV: How many STEPS of a BOOK aren't REACHED: from STEP 0");
    due("one step", x.idle(0), 0);
    due("23 behind a calm", x.idle(1), 23);
    due("22 between the first and the last", x.idle(2), 22);
    due("each", x.idle(3), 0);
    sentence("19: NONE");
    for (int k : new int[] {-1, 1, 23, LEAST, MOST}) due("look(0, " + k + ")", x.look(0, k), NONE);
    for (int k : new int[] {-1, 24, LEAST, MOST}) due("look(3, " + k + ")", x.look(3, k), NONE);
    for (int b : new int[] {-1, 4, LEAST, MOST}) due("look(" + b + ", 0)", x.look(b, 0), NONE);
    sentence("19: Whether a STEP is REACHED (1)");
    for (int k = 0; k < 24; k++) {
      due("look(1, " + k + ")", x.look(1, k), k == 0 ? 3 : 2);
      due("look(2, " + k + ")", x.look(2, k), k == 0 || k == 23 ? 3 : 2);
      due("look(3, " + k + ")", x.look(3, k), 3);
    }
    due("look(0, 0)", x.look(0, 0), 3);
  }

  private static void looks(String text, int... want) {
    NightBook x = with(house(2, 1, 1, 128), text);
    int idle = 0;
    for (int k = 0; k < want.length; k++) {
      due("look(0, " + k + ") of <" + text + ">", x.look(0, k), want[k]);
      idle += 1 - want[k] % 2;
    }
    due("idle(0) of <" + text + ">", x.idle(0), idle);
  }

  private static void looksOf() {
    sentence("IV: REACHED: (a do, wait: the next one)");
    looks("do 0 right 0 takes 1;do 7 wrong 1 takes 1;wait 1;calm;calm", 3, 3, 3, 3, 2);
    looks("do 0 right 0 takes 1", 3);
    looks("do 1 right 0 takes 1 if 0 harm;calm", 1, 3);
    sentence("IV: REACHED: (the last STEP of a BOOK leads to none, whatever text was refused or comes behind it)");
    NightBook y = house(2, 1, 1, 128);
    book(y, times(5, "go 1", ";") + ";");
    with(y, "go 3;calm;calm;wait 1", times(2, "go 23", ";") + times(22, ";wait 1", ""), "go 1;calm");
    int[] short4 = {3, 2, 2, 3};
    for (int k = 0; k < 4; k++) due("look(0, " + k + ")", y.look(0, k), short4[k]);
    due("idle(0)", y.idle(0), 2);
    went(y, "play(0)", y.play(0, 0, 0, 0), OVER, 1, 2, 0, 4);
    due("look(1, 1)", y.look(1, 1), 2);
    due("idle(1)", y.idle(1), 22);
    went(y, "play(1)", y.play(1, 0, 0, 0), OVER, 1, 2, 0, 24);
    sentence("IV: REACHED: (ask: both), whatever asks tell");
    looks("ask 0 then 2 else 4;calm;calm;calm;calm;calm", 3, 2, 3, 2, 3, 2);
    looks("ask 0 then 0 else 0;calm", 3, 2);
    looks("ask 0 then 0 else 2;calm;calm", 3, 2, 3);
    looks("ask 0 then 2 else 0;calm;calm", 3, 2, 3);
    sentence("IV: REACHED: (go: its own)");
    looks("go 2;calm;go 1", 3, 3, 3);
    looks("go 0;calm", 3, 2);
    looks("go 3;go 2;go 1;go 3", 3, 2, 2, 3);
    sentence("IV: REACHED: (calm: none)");
    looks("calm;go 0", 3, 2);
    sentence("IV: REACHED: some row of STEPS leads (from the last back to each)");
    StringBuilder back = new StringBuilder("go 23");
    for (int k = 1; k < 24; k++) back.append(";go ").append(k - 1);
    int[] all = new int[24];
    java.util.Arrays.fill(all, 3);
    looks(back.toString(), all);
    sentence("IV, 19: DOABLE (2 more): a do whose SKILL some PERSON has; other STEPS are");
    looks("do 0 right 0 takes 1;do 1 right 0 takes 1;do 6 wrong 0 takes 1;do 7 wrong 0 takes 1;calm;do 3 right 0 takes 1;do 7 right 0 takes 1", 3, 1, 1, 3, 3, 0, 2);
    NightBook x = with(house(1, 1), "do 0 right 0 takes 1;ask 0 then 2 else 3;wait 1;go 4;calm");
    int[] want = {1, 3, 3, 3, 3};
    for (int k = 0; k < 5; k++) due("look(0, " + k + ") without people", x.look(0, k), want[k]);
    for (int i = 0; i < 3; i++) x.person(254);
    due("look(0, 0) of three who can't", x.look(0, 0), 1);
    x.person(1);
    due("look(0, 0) of a last one who can", x.look(0, 0), 3);
  }

  private static void firstMend(NightBook x, String call, int mends, int... want) {
    done(x, call, mends, want[0]);
    for (int what = 0; what < 3; what++) due("mend(" + what + ") behind " + call, x.mend(what), want[0] == 0 ? NONE : want[what + 1]);
  }

  private static void mendNumbers() {
    sentence("20: NONE: 5");
    NightBook x = with(house(1, 1, 1), "go 0;calm", "go 0", "calm");
    refused(x, "mends() ahead of any", x.mends(), NOT_PLAYED);
    x.play(0, 0, 0, 0);
    x.all(9, 0, 0, 0, 0);
    x.all(0, 256, 0, 0, 0);
    x.all(0, 0, 9, 0, 0);
    x.differ(0, 1, 0, 0, 0, 0);
    refused(x, "mends() behind a refused all()", x.mends(), NOT_PLAYED);
    sentence("21: NONE (ahead of any mends() that told a number)");
    for (int what : new int[] {0, 1, 2, 3, -1, LEAST, MOST}) due("mend(" + what + ")", x.mend(what), NONE);
    sentence("20: How many MENDS CURE the latest all() that told a number");
    x.all(0, 0, 0, 0, 0);
    x.all(2, 256, 0, 0, 0);
    x.all(9, 0, 0, 0, 0);
    firstMend(x, "mends() of book 0", x.mends(), 1, 2, 0, 1);
    sentence("21: NONE (another what)");
    for (int what : new int[] {3, -1, LEAST, MOST}) due("mend(" + what + ")", x.mend(what), NONE);
    sentence("21: Of the first that cures in the latest mends() that told a number");
    x.all(2, 0, 0, 0, 0);
    x.play(0, 0, 0, 0);
    due("mend(2) behind another all()", x.mend(2), 1);
    sentence("20: 0 if none was BAD; 21: (NONE if that was 0)");
    firstMend(x, "mends() of book 2", x.mends(), 0);
    x.all(0, 0, 0, 0, 0);
    due("mend(2) behind another all()", x.mend(2), NONE);
    firstMend(x, "mends() of book 0", x.mends(), 1, 2, 0, 1);
    sentence("20: the latest all() (by its CHOICES alone, though one ahead of it had more)");
    due("all", x.all(0, 1, 1, 0, 0), 2);
    firstMend(x, "early with the fact wrong", x.mends(), 0);
    due("all", x.all(0, 0, 0, 0, 0), 1);
    firstMend(x, "none wrong", x.mends(), 1, 2, 0, 1);
    sentence("IV: each becomes another STEP (there is none in a BOOK of one)");
    due("all", x.all(1, 0, 0, 0, 0), 1);
    firstMend(x, "mends() of book 1", x.mends(), 0);
  }

  private static void mendKinds() {
    sentence("IV: an ask's first target; 21: kind 0, the STEP, the new target");
    NightBook x = with(house(1, 1, 1), "do 0 wrong 0 takes 1;ask 0 then 1 else 2;calm", "ask 0 then 0 else 0;calm;calm",
        "go 2;calm;" + times(21, "wait 1", ";") + ";go 23", "ask 0 then 1 else 1;go 1;ask 0 then 2 else 2;calm");
    x.goal(0);
    x.all(0, 0, 0, 0, 0);
    firstMend(x, "mends()", x.mends(), 1, 0, 1, 2);
    sentence("IV: then its second; 21: kind 1");
    x.all(1, 0, 0, 0, 0);
    firstMend(x, "mends()", x.mends(), 2, 1, 0, 1);
    sentence("IV: a go's target (of the first and of the last STEP, to the first and to the last); 21: kind 2");
    x.all(2, 0, 0, 0, 0);
    firstMend(x, "mends()", x.mends(), 2, 2, 0, 1);
    sentence("IV: MENDS of a BOOK, in order: of each STEP by number");
    x.all(3, 0, 0, 0, 0);
    firstMend(x, "mends()", x.mends(), 2, 1, 0, 3);
    NightBook y = with(house(1, 1, 1), "wait 1;go 1;calm", "ask 0 then 2 else 2;calm;go 2", times(23, "go 23", ";") + ";calm", "wait 1;" + times(22, "go 1", ";") + ";calm");
    y.goal(0);
    y.all(0, 0, 0, 0, 0);
    firstMend(y, "the last target", y.mends(), 1, 2, 1, 2);
    y.all(1, 1, 1, 0, 0);
    firstMend(y, "one of two ways of an ask is not enough, so its go", y.mends(), 1, 2, 2, 1);
    y.all(3, 0, 0, 0, 0);
    firstMend(y, "the last of 24", y.mends(), 1, 2, 1, 23);
    due("none is bad", y.all(2, 0, 0, 0, 0), 0);
    sentence("IV: another STEP (0, 1 ..), STEP 0 too");
    NightBook v = with(house(1, 1, 1), "ask 0 then 1 else 3;do 0 right 0 takes 1;go 2;calm");
    v.all(0, 1, 1, 0, 0);
    firstMend(v, "back to STEP 0, or on to the last", v.mends(), 2, 2, 2, 0);
    sentence("IV: A MEND CURES if ALL PLAYS are CALM by it");
    NightBook z = with(house(1, 1, 1), "ask 0 then 0 else 1;calm;do 0 right 0 takes 1;calm", "ask 0 then 0 else 1;calm");
    z.all(0, 1, 1, 0, 0);
    firstMend(z, "in one it was calm, in all it is", z.mends(), 1, 0, 0, 2);
    z.all(0, 1, 1, 0, 1);
    firstMend(z, "one play stays bad", z.mends(), 0);
    z.all(1, 1, 1, 0, 0);
    firstMend(z, "early is not calm", z.mends(), 0);
  }

  private static void learning() {
    sentence("IV: then each PERSON (by number) learns each SKILL that it hasn't (0, 1 ..); 21: kind 3, the PERSON, the SKILL");
    for (int skill = 0; skill < 8; skill++) {
      NightBook x = with(house(1, 0, 255 - (1 << skill), 0, 0, 0), "do " + skill + " right 0 takes 1;calm");
      x.all(0, 1, 1, 0, 0);
      firstMend(x, "skill " + skill, x.mends(), 4, 3, 0, skill);
    }
    NightBook x = with(house(1, 0, 1, 0, 0, 1), "do 0 right 0 takes 1;calm", "do 1 right 0 takes 1;do 2 right 0 takes 1;calm");
    due("two are away", x.all(0, 1, 1, 0, 2), 2);
    firstMend(x, "persons 1 and 2 may learn it", x.mends(), 2, 3, 1, 0);
    due("none can", x.all(1, 1, 1, 0, 0), 2);
    firstMend(x, "one skill is not enough", x.mends(), 0);
    NightBook y = with(house(1, 0, 255, 255, 255), "do 0 right 0 takes 1;calm");
    y.person(254);
    due("three are away", y.all(0, 1, 1, 0, 3), 2);
    firstMend(y, "the last person", y.mends(), 1, 3, 3, 0);
    sentence("IV: MENDS, in order: targets ahead of SKILLS");
    NightBook z = with(house(1, 0, 0, 0), "go 1;do 7 right 0 takes 1;calm");
    z.goal(0);
    z.all(0, 0, 0, 0, 0);
    firstMend(z, "one target and two who may learn", z.mends(), 3, 2, 0, 2);
    sentence("20: (Nothing is changed.)");
    due("step(0, 0, 1)", z.step(0, 0, 1), 1);
    due("look(0, 1)", z.look(0, 1), 1);
    went(z, "play", z.play(0, 0, 0, 0), STUCK, 0, 2, 0, 1);
    due("allOf(0)", z.allOf(0), 1);
    due("allOf(6)", z.allOf(6), STUCK);
    firstMend(z, "again", z.mends(), 3, 2, 0, 2);
    sentence("20: by the CHOICES that it had");
    NightBook w = with(house(1, 1, 1), "ask 0 then 0 else 1;calm;do 0 right 0 takes 1;calm");
    w.all(0, 255, 8, 0, 0);
    w.fact();
    w.sign(1);
    firstMend(w, "a fact that came behind it isn't wrong", w.mends(), 1, 0, 0, 2);
  }

  private static void mendRoom() {
    sentence("20: 3 (some were BAD, and MENDS times PLAYS are more than 20,000)");
    NightBook x = with(house(4, 4, 0, 0, 0, 0), times(8, "go 0", ";") + ";" + times(9, "calm", ";"));
    due("125 plays", x.all(0, 15, 1, 1, 1), 125);
    done(x, "160 * 125 are 20,000", x.mends(), 0);
    NightBook behind = with(house(4, 4, 0, 0, 0, 0), times(23, "calm", ";") + ";go 0");
    refused(behind, "a text of 24 gos and no end", book(behind, times(24, "go 0", ";") + ";"), FAULT);
    with(behind, times(8, "go 0", ";") + ";" + times(9, "calm", ";"));
    due("125 plays", behind.all(1, 15, 1, 1, 1), 125);
    done(behind, "160 * 125, whatever text was refused or taken ahead of it", behind.mends(), 0);
    String asks = times(12, "ask 0 then 0 else 0", ";") + ";go 0;calm";
    NightBook y = with(house(6, 1, 0, 0, 0, 252), asks, "go 0;calm");
    y.all(1, 0, 0, 0, 0);
    y.goal(0);
    firstMend(y, "few", y.mends(), 1, 2, 0, 1);
    due("57 plays", y.all(0, 63, 4, 0, 0), 57);
    // 25 targets, 13 other steps for each, and 26 skills to learn: 351 mends.
    refused(y, "351 * 57 are 20,007", y.mends(), ROOM);
    due("mend(0) is of the latest that told a number", y.mend(0), 2);
    due("mend(2)", y.mend(2), 1);
    NightBook z = with(house(6, 1, 0, 0, 0, 254), asks);
    due("57 plays", z.all(0, 63, 4, 0, 0), 57);
    done(z, "350 * 57 are 19,950", z.mends(), 0);
    sentence("20: 0 if none was BAD (however many MENDS times PLAYS are)");
    NightBook w = with(house(8, 1, 0, 0, 0, 0), "calm;" + times(22, "ask 0 then 0 else 0", ";") + ";calm");
    w.goal(0);
    due("256 plays", w.all(0, 255, 8, 0, 0), 0);
    done(w, "(44 * 23 + 32) * 256", w.mends(), 0);
    w.goal(255);
    done(w, "none was bad, though now they would be", w.mends(), 0);
    due("255 are bad", w.all(0, 255, 8, 0, 0), 255);
    refused(w, "(44 * 23 + 32) * 256", w.mends(), ROOM);
    sentence("20: 3 (some were BAD: one is enough)");
    StringBuilder b = new StringBuilder();
    for (int i = 0; i < 5; i++) b.append("ask ").append(i).append(" then ").append(i + 1).append(" else 22;");
    NightBook v = with(house(5, 5, 0, 0, 0, 0), b + "go 5;" + times(16, "ask 0 then 0 else 0", ";") + ";calm");
    v.goal(0);
    due("one of 32 is bad", v.all(0, 31, 5, 0, 0), 1);
    refused(v, "(43 * 22 + 32) * 32", v.mends(), ROOM);
  }

  // ---- nights and logs

  private static void nightNumbers() {
    NightBook x = house(1, 1, 1);
    sentence("22: NONE: 1");
    refused(x, "nights without books", x.nights(0, 0, 0, 0, 0, 0, 0), NONE_SUCH);
    with(x, "wait 2;calm", "calm");
    for (int b : new int[] {-1, 2, 4, LEAST, MOST}) {
      refused(x, "first " + b, x.nights(b, 0, 0, 0, 0, 0, 0), NONE_SUCH);
      refused(x, "second " + b, x.nights(0, 0, 0, b, 0, 0, 0), NONE_SUCH);
      refused(x, "first " + b + " with other wrong numbers: 1 comes first", x.nights(b, 256, -1, 0, 256, -1, 256), NONE_SUCH);
      refused(x, "second " + b + " with other wrong numbers: 1 comes first", x.nights(0, 256, -1, b, 256, -1, 256), NONE_SUCH);
    }
    sentence("22: NONE: 2 (bits 0 .. 255)");
    for (int bits : NO_BITS) {
      refused(x, "wrong " + bits, x.nights(0, bits, 0, 0, 0, 0, 0), NUMBER);
      refused(x, "lies " + bits, x.nights(0, 0, bits, 0, 0, 0, 0), NUMBER);
      refused(x, "otherWrong " + bits, x.nights(0, 0, 0, 0, bits, 0, 0), NUMBER);
      refused(x, "otherLies " + bits, x.nights(0, 0, 0, 0, 0, bits, 0), NUMBER);
      refused(x, "away " + bits, x.nights(0, 0, 0, 0, 0, 0, bits), NUMBER);
    }
    sentence("23: NONE (ahead of any)");
    for (int what : new int[] {0, 1, 2, 3, -1}) {
      due("night(false, " + what + ")", x.night(false, what), NONE);
      due("night(true, " + what + ")", x.night(true, what), NONE);
    }
    sentence("22: TICKS until both have ended");
    done(x, "both end at once", x.nights(1, 255, 255, 1, 0, 255, 255), 0);
    night(x, false, EARLY, 0, 0);
    night(x, true, CALM, 0, 0);
    done(x, "the first ends last", x.nights(0, 0, 0, 1, 0, 0, 0), 2);
    done(x, "the second ends last", x.nights(1, 0, 0, 0, 1, 0, 0), 2);
    night(x, false, CALM, 0, 0);
    night(x, true, EARLY, 2, 0);
    sentence("23: NONE (another what)");
    for (int what : new int[] {3, -1, LEAST, MOST}) {
      due("night(false, " + what + ")", x.night(false, what), NONE);
      due("night(true, " + what + ")", x.night(true, what), NONE);
    }
    sentence("23: Of the latest nights() (a refused one leaves it as it was)");
    x.nights(9, 0, 0, 0, 0, 0, 0);
    x.nights(0, 0, 0, 0, 0, 0, 256);
    x.play(0, 0, 0, 0);
    x.all(0, 1, 1, 1, 1);
    night(x, true, EARLY, 2, 0);
  }

  private static void nightEnds() {
    sentence("22: (A night alone ends as a PLAY does; ROUND is asked at each STEP that it comes to.)");
    String[] texts = {"calm", "do 1 right 0 takes 1", "do 0 right 0 takes 1 if 1 harm", "go 1;wait 3;go 0", "wait 5", upToTheEnd("wait 9"), upToTheEnd("wait 10"),
        "do 0 wrong 0 takes 2;do 0 right 0 takes 2;go 0", "ask 1 then 1 else 2;do 0 right 1 takes 60;calm"};
    for (String text : texts) {
      NightBook x = with(house(8, 8, 1), text, "calm");
      for (int w = 0; w < 4; w++) {
        int end = x.play(0, w, 2, 0);
        int ticks = x.played(0);
        done(x, "the first alone", x.nights(0, w, 2, 1, 0, 0, 0), ticks);
        night(x, false, end, ticks, 0);
        night(x, true, CALM, 0, 0);
        done(x, "the second alone", x.nights(1, 0, 0, 0, w, 2, 0), ticks);
        night(x, true, end, ticks, 0);
      }
    }
    sentence("IV: TWO NIGHTS: each in its own house (its own FACTS, SIGNS' lies)");
    NightBook y = with(house(8, 8, 1, 1), "ask 7 then 1 else 2;do 0 right 7 takes 4;ask 0 then 3 else 4;do 0 wrong 0 takes 1;calm");
    done(y, "own facts", y.nights(0, 128, 0, 0, 1, 0, 0), 6);
    night(y, false, CALM, 6, 0);
    night(y, true, EARLY, 3, 0);
    done(y, "own lies", y.nights(0, 0, 128, 0, 0, 1, 0), 6);
    night(y, false, CALM, 6, 0);
    night(y, true, EARLY, 3, 0);
    sentence("IV: TWO NIGHTS: with the same PEOPLE (the same AWAY)");
    done(y, "one is away", y.nights(0, 128, 0, 0, 128, 0, 2), 10);
    night(y, false, CALM, 6, 0);
    night(y, true, CALM, 10, 4);
    done(y, "both are", y.nights(0, 128, 0, 0, 0, 0, 3), 2);
    night(y, false, STUCK, 1, 0);
    night(y, true, CALM, 2, 0);
    done(y, "those that there aren't are of no matter", y.nights(0, 128, 0, 0, 128, 0, 252), 6);
  }

  private static void hands() {
    sentence("IV: At each TICK, from 0 on, the first night goes on, then the second");
    for (int ticks : new int[] {1, 2, 59, 60}) {
      NightBook x = with(house(1, 0, 1), "do 0 right 0 takes " + ticks + ";calm", "do 0 right 0 takes 7;calm");
      done(x, "both begin at TICK 0", x.nights(0, 1, 0, 1, 1, 0, 0), ticks + 7);
      night(x, false, CALM, ticks, 0);
      night(x, true, CALM, ticks + 7, ticks);
      done(x, "the other way round", x.nights(1, 1, 0, 0, 1, 0, 0), ticks + 7);
      night(x, false, CALM, 7, 0);
      night(x, true, CALM, ticks + 7, 7);
    }
    sentence("IV: those without TICKS at once, until it ends or begins one with TICKS");
    NightBook y = with(house(2, 0, 1), "go 1;go 2;go 3;do 0 right 0 takes 3;go 5;calm", "wait 1;do 0 right 0 takes 3;calm", "do 0 right 0 takes 3;do 0 right 1 takes 3;calm");
    done(y, "gos take no TICK", y.nights(0, 1, 0, 1, 1, 0, 0), 6);
    night(y, false, CALM, 3, 0);
    night(y, true, CALM, 6, 2);
    done(y, "gos take no TICK", y.nights(1, 1, 0, 0, 1, 0, 0), 6);
    night(y, true, CALM, 3, 0);
    night(y, false, CALM, 6, 2);
    sentence("IV: is busy for the TICKS that it takes, from this one on");
    done(y, "free at TICK 3, and the first goes on first", y.nights(2, 3, 0, 1, 1, 0, 0), 9);
    night(y, false, CALM, 6, 0);
    night(y, true, CALM, 9, 5);
    done(y, "the first waits, and has it at TICK 3", y.nights(1, 1, 0, 2, 3, 0, 0), 9);
    night(y, false, CALM, 6, 2);
    night(y, true, CALM, 9, 3);
    sentence("IV: else the free one of the least number");
    NightBook z = with(house(1, 0, 3, 1), "do 0 right 0 takes 5;calm", "do 1 right 0 takes 2;calm", "do 0 right 0 takes 1;do 1 right 0 takes 1;calm");
    done(z, "the first has person 0, whom the second needs", z.nights(0, 1, 0, 1, 1, 0, 0), 7);
    night(z, true, CALM, 7, 5);
    done(z, "he is busy, so it is person 1", z.nights(1, 1, 0, 0, 1, 0, 0), 5);
    night(z, true, CALM, 5, 0);
    done(z, "person 0 is away", z.nights(0, 1, 0, 2, 1, 0, 1), 6);
    night(z, true, STUCK, 6, 5);
    NightBook w = with(house(1, 0, 1, 1, 1, 3), "do 1 right 0 takes 5;calm", "do 0 right 0 takes 2;calm");
    done(w, "the last one is busy, others are free", w.nights(0, 1, 0, 1, 1, 0, 0), 5);
    night(w, true, CALM, 2, 0);
    done(w, "all others are away", w.nights(0, 1, 0, 1, 1, 0, 7), 7);
    night(w, true, CALM, 7, 5);
  }

  private static void waiting() {
    sentence("IV: a do of which all who could do it are busy waits a TICK (its STEP isn't come to anew)");
    NightBook x = with(house(2, 1, 1), "do 0 right 0 takes 60;calm", "do 0 right 0 takes 1;calm", "do 0 wrong 0 takes 3 if 1 harm;calm", "do 0 right 1 takes 9;calm");
    done(x, "60 TICKS of waiting are no ROUND", x.nights(0, 1, 0, 1, 1, 0, 0), 61);
    night(x, true, CALM, 61, 60);
    done(x, "and one is none", x.nights(1, 1, 0, 0, 1, 0, 0), 61);
    night(x, true, CALM, 61, 1);
    sentence("IV: (HARM is asked then)");
    done(x, "it waits, then does harm", x.nights(0, 1, 0, 2, 1, 0, 0), 60);
    night(x, true, HARM, 60, 60);
    NightBook again = with(house(2, 1, 1), "do 0 right 0 takes 60;calm", "do 0 wrong 0 takes 3 if 1 harm;calm", "wait 3;go 0");
    again.nights(0, 1, 0, 1, 1, 0, 0);
    night(again, true, HARM, 60, 60);
    done(again, "the next nights begin anew", again.nights(0, 1, 0, 2, 0, 0, 0), 60);
    night(again, true, ROUND, 3, 0);
    done(x, "harm at once", x.nights(2, 1, 0, 0, 1, 0, 0), 60);
    night(x, false, HARM, 0, 0);
    night(x, true, CALM, 60, 0);
    done(x, "no harm", x.nights(3, 2, 0, 2, 2, 0, 0), 12);
    night(x, true, EARLY, 12, 9);
    sentence("IV: (if there is none it is STUCK)");
    done(x, "all are away", x.nights(0, 1, 0, 2, 0, 0, 1), 0);
    night(x, false, STUCK, 0, 0);
    night(x, true, STUCK, 0, 0);
    sentence("IV: FACTS change as the STEP's last TICK is over");
    NightBook y = with(house(1, 1, 1), "do 0 right 0 takes 4;ask 0 then 3 else 2;calm;wait 9", "ask 0 then 0 else 1;calm");
    done(y, "they are another house's", y.nights(0, 1, 0, 1, 1, 0, 0), 5);
    night(y, false, CALM, 5, 0);
    night(y, true, ROUND, 1, 0);
    sentence("22, III: LONG: with more than 5,000 TICKS, those that it waited too");
    NightBook z = with(house(8, 8, 1), upToTheEnd("wait 9"), "do 0 right 0 takes 1", "do 0 right 0 takes 2", upToTheEnd("wait 8"));
    done(z, "it needn't wait", z.nights(1, 0, 0, 0, 0, 0, 0), 5000);
    night(z, true, OVER, 5000, 0);
    done(z, "it waits a TICK", z.nights(2, 0, 0, 0, 0, 0, 0), 5001);
    night(z, true, LONG, 5001, 1);
    done(z, "it waits a TICK of 5,000", z.nights(2, 0, 0, 3, 0, 0, 0), 5000);
    night(z, true, OVER, 5000, 1);
    String last = upToTheEnd("do 2 right 7 takes 60");
    NightBook w = with(house(8, 8, 1, 2, 4), last, last.replace("do 0 ", "do 1 "));
    done(w, "it waits beyond 5,000 TICKS", w.nights(0, 0, 0, 1, 0, 0, 0), 5111);
    night(w, false, LONG, 5051, 0);
    night(w, true, LONG, 5111, 60);
  }

  private static void logs() {
    NightBook x = new NightBook();
    sentence("24: A STEP (0 .. 23); NONE: 2");
    for (int step : new int[] {-1, 24, LEAST, MOST}) {
      refused(x, "log(" + step + ")", x.log(step), NUMBER);
      due("count(4)", x.count(4), 0);
    }
    sentence("25: how many there were (none)");
    due("clear()", x.clear(), 0);
    sentence("24: more comes to the LOG: how many");
    for (int i = 1; i <= 24; i++) done(x, "log(" + (i - 1) + ")", x.log(i - 1), i);
    for (int i = 25; i <= 199; i++) x.log(0);
    done(x, "the 200th", x.log(23), 200);
    sentence("24: NONE: 3 (200)");
    refused(x, "a 201st", x.log(0), ROOM);
    due("count(4)", x.count(4), 200);
    for (int step : new int[] {-1, 24, LEAST, MOST}) refused(x, "a 201st of no STEP: 2 comes first", x.log(step), NUMBER);
    sentence("25: The LOG is empty: how many there were (200)");
    due("clear()", x.clear(), 200);
    due("count(4)", x.count(4), 0);
    due("clear()", x.clear(), 0);
    done(x, "log(23) behind it", x.log(23), 1);
    due("clear()", x.clear(), 1);
  }

  private static void lay(NightBook x, int both, int left, int added, int... log) {
    x.clear();
    for (int step : log) x.log(step);
    done(x, "laid() of " + java.util.Arrays.toString(log), x.laid(), both);
    due("apart(false)", x.apart(false), left);
    due("apart(true)", x.apart(true), added);
  }

  private static void laidEdges() {
    sentence("26: NONE (5); 27: NONE ahead of any");
    NightBook x = with(house(1, 1, 1), "ask 0 then 1 else 2;do 0 right 0 takes 1;wait 1;calm", "calm", "go 0", times(24, "wait 1", ";"));
    refused(x, "laid() ahead of any play()", x.laid(), NOT_PLAYED);
    x.log(0);
    x.play(9, 0, 0, 0);
    x.play(0, 256, 0, 0);
    x.all(0, 0, 0, 0, 0);
    x.nights(0, 0, 0, 0, 0, 0, 0);
    refused(x, "laid() behind refused ones", x.laid(), NOT_PLAYED);
    due("apart(false)", x.apart(false), NONE);
    due("apart(true)", x.apart(true), NONE);
    x.play(0, 1, 0, 0);
    due("apart(false) behind a play()", x.apart(false), NONE);
    due("apart(true) behind a play()", x.apart(true), NONE);
    sentence("26: LAID beside a PLAY: the longest row of STEPS that is in both in order");
    lay(x, 0, 4, 0);
    lay(x, 1, 3, 0, 0);
    lay(x, 1, 3, 0, 3);
    lay(x, 0, 4, 1, 23);
    lay(x, 4, 0, 0, 0, 1, 2, 3);
    lay(x, 1, 3, 3, 3, 2, 1, 0);
    lay(x, 3, 1, 2, 1, 0, 2, 2, 3);
    lay(x, 4, 0, 4, 0, 0, 1, 1, 2, 2, 3, 3);
    x.play(1, 0, 0, 0);
    lay(x, 1, 0, 0, 0);
    lay(x, 0, 1, 1, 1);
    x.play(2, 0, 0, 0);
    lay(x, 1, 1, 0, 0);
    lay(x, 2, 0, 0, 0, 0);
    lay(x, 2, 0, 1, 0, 0, 0);
    x.play(3, 0, 0, 0);
    lay(x, 2, 22, 0, 0, 23);
    lay(x, 1, 23, 1, 23, 0);
    sentence("27: LEFT (or ADDED) of the latest laid()");
    x.clear();
    x.play(0, 0, 0, 0);
    x.log(5);
    x.log(5);
    due("apart(false)", x.apart(false), 23);
    due("apart(true)", x.apart(true), 1);
    sentence("26: beside the latest play() (one that was refused isn't)");
    x.play(1, 256, 0, 0);
    x.play(9, 0, 0, 0);
    lay(x, 3, 0, 0, 0, 2, 3);
  }

  /** A counter of six bits whose last STEP, 23, is come to but once, at its end; gos to 2 instead of 0 take one more. */
  private static String lateEnd(int go3, int go4, int go5) {
    StringBuilder b = new StringBuilder(counter(5, 1, 0)).append(";ask 5 then 23 else 21;do 0 wrong 5 takes 1;go ").append(go5).append(";calm");
    String text = b.toString();
    return text.replace("do 0 wrong 3 takes 1;go 0", "do 0 wrong 3 takes 1;go " + go3).replace("do 0 wrong 4 takes 1;go 0", "do 0 wrong 4 takes 1;go " + go4);
  }

  private static void laidMany() {
    sentence("26: (its first 300 STEPS)");
    NightBook x = with(house(8, 8, 1), lateEnd(0, 0, 0), lateEnd(0, 2, 2), lateEnd(2, 0, 0), counter(6, 1, 0));
    x.goal(0);
    int[] steps = {297, 300, 301};
    int[] both = {1, 1, 0};
    int[] left = {296, 299, 300};
    for (int b = 0; b < 3; b++) {
      due("play", x.play(b, 4, 0, 0), CALM);
      due("played(1)", x.played(1), steps[b]);
      due("the last STEP", x.path(steps[b] - 1), 23);
      lay(x, both[b], left[b], 1 - both[b], 23);
    }
    due("play", x.play(3, 0, 0, 0), OVER);
    due("played(1)", x.played(1), 315);
    lay(x, 0, 300, 0);
    sentence("24, 26: a full LOG (200)");
    x.clear();
    for (int i = 0; i < 200; i++) x.log(x.path(i));
    done(x, "laid()", x.laid(), 200);
    due("apart(false)", x.apart(false), 100);
    due("apart(true)", x.apart(true), 0);
  }

  private static void differNumbers() {
    NightBook x = house(2, 2, 1, 1);
    sentence("28: NONE: 1");
    refused(x, "differ without books", x.differ(0, 0, 0, 0, 0, 0), NONE_SUCH);
    with(x, "calm", "wait 1;calm");
    for (int b : new int[] {-1, 2, 4, LEAST, MOST}) {
      refused(x, "book " + b, x.differ(b, 0, 0, 0, 0, 0), NONE_SUCH);
      refused(x, "other " + b, x.differ(0, b, 0, 0, 0, 0), NONE_SUCH);
      refused(x, "book " + b + " with other wrong numbers: 1 comes first", x.differ(b, 0, 256, 9, -1, 9), NONE_SUCH);
      refused(x, "other " + b + " with other wrong numbers: 1 comes first", x.differ(0, b, 256, 9, -1, 9), NONE_SUCH);
    }
    sentence("28: NONE: 2");
    for (int bits : NO_BITS) refused(x, "facts " + bits, x.differ(0, 1, bits, 0, 0, 0), NUMBER);
    for (int most : NO_MOSTS) {
      refused(x, "wrongMost " + most, x.differ(0, 1, 0, most, 0, 0), NUMBER);
      refused(x, "liesMost " + most, x.differ(0, 1, 0, 0, most, 0), NUMBER);
      refused(x, "awayMost " + most, x.differ(0, 1, 0, 0, 0, most), NUMBER);
    }
    sentence("28: by the same choices (0 and 8 of each)");
    done(x, "0 of each", x.differ(0, 1, 255, 0, 0, 0), 1);
    done(x, "8 of each", x.differ(0, 1, 255, 8, 8, 8), 16);
    done(x, "a book and itself", x.differ(1, 1, 255, 8, 8, 8), 0);
    NightBook y = with(house(7, 8, 1, 1, 1), "calm", "wait 1");
    sentence("28: 3 (more than 500)");
    refused(y, "63 * 8 are 504", y.differ(0, 1, 63, 5, 0, 8), ROOM);
    refused(y, "8 * 9 * 7 are 504", y.differ(0, 1, 127, 1, 1, 2), ROOM);
    refused(y, "as many as there are", y.differ(0, 1, 255, 8, 8, 8), ROOM);
    refused(y, "too many of a book that there isn't", y.differ(0, 2, 255, 8, 8, 8), NONE_SUCH);
    refused(y, "too many with a wrong number", y.differ(0, 1, 255, 8, 8, 9), NUMBER);
    done(y, "57 * 8 are 456", y.differ(0, 1, 63, 4, 0, 8), 456);
    NightBook z = with(house(5, 0, 1, 1, 1, 1), "calm", "wait 1");
    done(z, "31 * 16 are 496", z.differ(0, 1, 31, 4, 0, 4), 496);
  }

  private static void differEdges() {
    sentence("28: in how many the ENDS are unlike, or the TICKS of CALM ones");
    NightBook x = with(house(1, 1, 1), "calm", "wait 1;calm", "wait 1", "wait 2");
    done(x, "TICKS of the CALM one, not of the EARLY one", x.differ(0, 1, 1, 1, 0, 0), 1);
    done(x, "ENDS, CALM and EARLY to OVER", x.differ(1, 2, 1, 1, 0, 0), 2);
    done(x, "TICKS of OVER are of no matter", x.differ(2, 3, 1, 1, 0, 0), 0);
    done(x, "in the other order", x.differ(1, 0, 1, 1, 0, 0), 1);
    sentence("28: (it is no all() and no play())");
    due("allOf(0)", x.allOf(0), NONE);
    due("played(0)", x.played(0), NONE);
    due("all", x.all(1, 1, 1, 0, 0), 1);
    x.differ(2, 3, 1, 1, 1, 1);
    due("allOf(0)", x.allOf(0), 2);
    due("ended(5)", x.ended(OVER), 0);
    x.play(1, 0, 0, 0);
    x.differ(2, 3, 1, 1, 1, 1);
    due("played(0)", x.played(0), 1);
    due("path(1)", x.path(1), 1);
  }

  private static void counts() {
    sentence("29: 0 FACTS, 1 SIGNS, 2 PEOPLE, 3 BOOKS, 4 STEPS of the LOG, 5 bytes of THE TAPE (full)");
    NightBook x = with(house(8, 8, 1, 1, 1, 1), "calm", "calm", "calm", "calm");
    for (int i = 0; i < 200; i++) x.log(0);
    for (int i = 0; i < 30; i++) x.feed(0, 0, 0, 0, 0);
    x.fact(); x.sign(0); x.person(0); x.log(0); x.feed(0, 0, 0, 0, 0);
    int[] want = {8, 8, 4, 4, 200, 600};
    for (int what = 0; what < 6; what++) due("count(" + what + ")", x.count(what), want[what]);
    sentence("29: NONE for others");
    for (int what : new int[] {-1, 6, LEAST, MOST}) due("count(" + what + ")", x.count(what), NONE);
  }

  private static void troubles() {
    sentence("V: TROUBLE: 0 it wasn't (ahead of any call)");
    NightBook x = new NightBook();
    due("trouble()", x.trouble(), DONE);
    sentence("V, 30: TROUBLE of the latest call that may be refused");
    int[] numbers = {NONE_SUCH, NUMBER, ROOM, FAULT, NOT_PLAYED};
    with(x, "calm");
    for (int i = 0; i < 8; i++) x.fact();
    for (int number : numbers) {
      trouble(x, number);
      due("trouble()", x.trouble(), number);
      x.fault(); x.where(); x.steps(0); x.steps(9); x.step(0, 0, 0); x.step(9, 9, 9); x.path(0); x.path(-1); x.ended(0);
      x.ended(9); x.allOf(0); x.allOf(9); x.idle(0); x.idle(9); x.look(0, 0); x.look(9, 9); x.mend(0); x.mend(9);
      x.night(true, 0); x.night(false, 9); x.clear(); x.apart(true); x.count(0); x.count(9);
      due("trouble() behind calls that are never refused", x.trouble(), number);
      x.goal(255);
      due("trouble() behind one that wasn't", x.trouble(), DONE);
    }
    sentence("V: 0 it wasn't (each call that may be refused)");
    NightBook y = house(1, 1, 1);
    for (int call = 0; call < 12; call++) {
      y.goal(-1);
      due("trouble()", y.trouble(), NUMBER);
      due("a call that is taken", isTaken(y, call), true);
      due("trouble() behind call " + call, y.trouble(), DONE);
    }
  }

  private static void trouble(NightBook x, int number) {
    switch (number) {
      case NONE_SUCH -> x.sign(8);
      case NUMBER -> x.person(-1);
      case ROOM -> x.fact();
      case FAULT -> x.book(0);
      default -> x.laid();
    }
  }

  private static boolean isTaken(NightBook y, int call) {
    return switch (call) {
      case 0 -> y.fact() >= 0;
      case 1 -> y.sign(0) >= 0;
      case 2 -> y.person(0) >= 0;
      case 3 -> book(y, "calm") >= 0;
      case 4 -> y.play(0, 0, 0, 0) >= 0;
      case 5 -> y.played(0) >= 0;
      case 6 -> y.all(0, 0, 0, 0, 0) >= 0;
      case 7 -> y.mends() >= 0;
      case 8 -> y.nights(0, 0, 0, 0, 0, 0, 0) >= 0;
      case 9 -> y.log(0) >= 0;
      case 10 -> y.laid() >= 0;
      default -> y.differ(0, 0, 0, 0, 0, 0) >= 0;
    };
  }

  public static void main(String[] args) {
    calls(); newObject(); facts(); signs(); people(); goals();
    tape(); bookNumbers(); fourBooks(); blanks(); tokens(); forms(); numbers(); faultOrder(); manySteps(); targets();
    faultAndWhere(); whereBehind(); readBooks();
    playNumbers(); ends(); rounds(); longPlays(); playedNone(); paths();
    allNumbers(); allChoices(); allRoom(); allOrder(); endedAndAllOf(); allOfEdges();
    reached(); looksOf(); mendNumbers(); mendKinds(); learning(); mendRoom();
    nightNumbers(); nightEnds(); hands(); waiting(); logs(); laidEdges(); laidMany();
    differNumbers(); differEdges(); counts(); troubles();
    System.out.println(sentences + " sentences: " + (wrong == 0 ? "all answers are as due" : wrong + " answers are not as due"));
    if (wrong != 0) System.exit(1);
  }
}
