import java.util.ArrayList;
import java.util.Arrays;
import java.util.Comparator;
import java.util.HashSet;
import java.util.List;
import java.util.Random;
import java.util.Set;

/** Random runs (of fixed seeds), each call laid beside a slow model that follows the document's words. */
public final class NightBookAgainstModel {
  private static int wrong = 0;

  /** One token of a text: kind w (word), n (number), ; or e (end) or x (none). */
  record Token(char kind, String text, int place) { }

  /** How a play or a night went. */
  static final class Course {
    int end = -1, ticks, facts, at, waited;
    final List<Integer> path = new ArrayList<>();
  }

  static final class Model {
    int facts, goal = 255, trouble, fault, place;
    final List<Integer> signs = new ArrayList<>();
    final List<Integer> people = new ArrayList<>();
    final List<int[][]> books = new ArrayList<>();
    final List<Integer> log = new ArrayList<>();
    StringBuilder tape = new StringBuilder();
    Course play;
    Course[] nights;
    int allBook;
    List<int[]> allChoices;
    List<Course> allCourses;
    int[] mend;
    int left = -1, added = -1;

    int no(int t) { trouble = t; return -1; }
    int yes(int v) { trouble = 0; return v; }

    int fact() { return facts == 8 ? no(3) : yes(facts++); }

    int sign(int f) {
      if (f < 0 || f >= facts) return no(1);
      if (signs.size() == 8) return no(3);
      signs.add(f);
      return yes(signs.size() - 1);
    }

    static boolean bits(int... all) {
      for (int b : all) if (b < 0 || b > 255) return false;
      return true;
    }

    int person(int s) {
      if (!bits(s)) return no(2);
      if (people.size() == 4) return no(3);
      people.add(s);
      return yes(people.size() - 1);
    }

    int goal(int f) {
      if (!bits(f)) { no(2); return 0; }
      goal = f;
      return yes(1);
    }

    int feed(int[] words) {
      if (tape.length() > 580) return -1;
      for (int w : words) for (int i = 3; i >= 0; i--) tape.append((char) ((w >> 8 * i) & 255));
      return tape.length();
    }

    // ---- texts

    static List<Token> tokens(String s) {
      List<Token> out = new ArrayList<>();
      int i = 0;
      while (i < s.length()) {
        char c = s.charAt(i);
        if (c == ' ' || c == '\n') { i++; continue; }
        boolean letter = c >= 'a' && c <= 'z', digit = c >= '0' && c <= '9';
        int j = i + 1;
        while ((letter || digit) && j < s.length() && (letter ? s.charAt(j) >= 'a' && s.charAt(j) <= 'z' : s.charAt(j) >= '0' && s.charAt(j) <= '9')) j++;
        String t = s.substring(i, j);
        char kind = c == ';' ? ';' : letter && t.length() <= 8 ? 'w' : digit && t.length() <= 2 ? 'n' : 'x';
        out.add(new Token(kind, t, i));
        i = j;
      }
      out.add(new Token('e', "", s.length()));
      return out;
    }

    int[][] failed(int f, int at) { fault = f; place = at; return null; }

    int[][] parse(String text) {
      fault = 0;
      List<Token> ts = tokens(text);
      List<int[]> steps = new ArrayList<>();
      List<int[]> targets = new ArrayList<>();
      int at = 0;
      while (true) {
        Token first = ts.get(at);
        String form = first.kind != 'w' ? "" : switch (first.text) {
          case "do" -> "do S ? F takes T";
          case "ask" -> "ask I then G else G";
          case "wait" -> "wait T";
          case "go" -> "go G";
          case "calm" -> "calm";
          default -> "";
        };
        if (form.isEmpty()) return failed(1, first.place);
        if (steps.size() == 24) return failed(3, first.place);
        int[] step = {0, 0, 0, 0, -1};
        List<Integer> numbers = new ArrayList<>();
        List<String> parts = new ArrayList<>(Arrays.asList(form.split(" ")));
        for (int k = 0; k < parts.size(); k++) {
          String part = parts.get(k);
          Token t = ts.get(at);
          if ("SFITG".contains(part)) {
            if (t.kind != 'n') return failed(1, t.place);
            int v = Integer.parseInt(t.text);
            boolean ok = switch (part) {
              case "S" -> v < 8;
              case "F" -> v < facts;
              case "I" -> v < signs.size();
              case "T" -> v >= 1 && v <= 60;
              default -> true;
            };
            if (!ok) return failed(2, t.place);
            if (part.equals("G")) targets.add(new int[] {v, t.place});
            numbers.add(v);
          } else if (part.equals("?")) {
            if (t.kind != 'w' || !(t.text.equals("right") || t.text.equals("wrong"))) return failed(1, t.place);
            step[0] = t.text.equals("right") ? 0 : 1;
          } else if (t.kind != 'w' || !t.text.equals(part)) {
            return failed(1, t.place);
          }
          at++;
          boolean mayHarm = form.startsWith("do") && k == 5 && ts.get(at).kind == 'w' && ts.get(at).text.equals("if");
          if (mayHarm) parts.addAll(List.of("if", "F", "harm"));
        }
        if (!form.startsWith("do")) step[0] = form.startsWith("ask") ? 2 : form.startsWith("wait") ? 3 : form.startsWith("go") ? 4 : 5;
        for (int k = 0; k < numbers.size(); k++) step[k + 1] = numbers.get(k);
        steps.add(step);
        Token behind = ts.get(at);
        if (behind.kind == 'e') break;
        if (behind.kind != ';') return failed(1, behind.place);
        at++;
      }
      for (int[] g : targets) if (g[0] >= steps.size()) return failed(2, g[1]);
      return steps.toArray(new int[0][]);
    }

    int book(int n) {
      if (n < 0 || n > tape.length()) return no(2);
      int[][] made = parse(tape.substring(0, n));
      tape = new StringBuilder();
      if (made == null) return no(4);
      if (books.size() == 4) return no(3);
      books.add(made);
      return yes(books.size() - 1);
    }

    boolean has(int b) { return b >= 0 && b < books.size(); }

    int step(int b, int k, int what) {
      if (!has(b) || k < 0 || k >= books.get(b).length || what < 0 || what > 4) return -1;
      return books.get(b)[k][what];
    }

    // ---- plays

    boolean can(int p, int skill, int away, List<Integer> who) {
      return (who.get(p) & 1 << skill) != 0 && (away & 1 << p) == 0;
    }

    Course course(int[][] book, List<Integer> who, int wrongBits, int lies, int away) {
      Course c = new Course();
      boolean[] isWrong = new boolean[8];
      for (int f = 0; f < facts; f++) isWrong[f] = (wrongBits & 1 << f) != 0;
      Set<String> seen = new HashSet<>();
      while (c.end < 0) {
        if (c.at == book.length) { c.end = 5; break; }
        c.path.add(c.at);
        if (!seen.add(c.at + Arrays.toString(isWrong))) { c.end = 4; break; }
        int[] s = book[c.at];
        int next = c.at + 1;
        if (s[0] <= 1) {
          boolean somebody = false;
          for (int p = 0; p < who.size(); p++) somebody |= can(p, s[1], away, who);
          if (!somebody) { c.end = 2; break; }
          if (s[4] >= 0 && !isWrong[s[4]]) { c.end = 3; break; }
          c.ticks += s[3];
          isWrong[s[2]] = s[0] == 1;
        } else if (s[0] == 2) {
          c.ticks++;
          boolean tells = isWrong[signs.get(s[1])] != ((lies & 1 << s[1]) != 0);
          next = tells ? s[2] : s[3];
        } else if (s[0] == 3) {
          c.ticks += s[1];
        } else if (s[0] == 4) {
          next = s[1];
        } else {
          c.end = 0;
          for (int f = 0; f < facts; f++) if (isWrong[f] && (goal & 1 << f) != 0) c.end = 1;
          break;
        }
        if (c.ticks > 5000) { c.end = 6; break; }
        c.at = next;
      }
      for (int f = 0; f < 8; f++) c.facts |= isWrong[f] ? 1 << f : 0;
      return c;
    }

    int play(int b, int w, int l, int a) {
      if (!has(b)) return no(1);
      if (!bits(w, l, a)) return no(2);
      play = course(books.get(b), people, w, l, a);
      return yes(play.end);
    }

    int played(int what) {
      if (play == null) return no(5);
      if (what < 0 || what > 3) return yes(-1);
      return yes(what == 0 ? play.ticks : what == 1 ? play.path.size() : what == 2 ? play.facts : play.at);
    }

    int path(int i) {
      return play == null || i < 0 || i >= play.path.size() || i >= 2000 ? -1 : play.path.get(i);
    }

    List<int[]> choices(int told, int wm, int lm, int am) {
      List<int[]> out = new ArrayList<>();
      for (int a = 0; a < 1 << people.size(); a++) {
        if (Integer.bitCount(a) > am) continue;
        for (int l = 0; l < 1 << signs.size(); l++) {
          if (Integer.bitCount(l) > lm) continue;
          for (int w = 0; w < 1 << facts; w++) {
            if ((w & ~told) == 0 && Integer.bitCount(w) <= wm) out.add(new int[] {w, l, a});
          }
        }
      }
      out.sort(Comparator.<int[]>comparingInt(c -> Integer.bitCount(c[0]) + Integer.bitCount(c[1]) + Integer.bitCount(c[2]))
          .thenComparingInt(c -> c[0] + 256 * c[1] + 65536 * c[2]));
      return out;
    }

    static boolean mosts(int... all) {
      for (int m : all) if (m < 0 || m > 8) return false;
      return true;
    }

    int all(int b, int told, int wm, int lm, int am) {
      if (!has(b)) return no(1);
      if (!bits(told) || !mosts(wm, lm, am)) return no(2);
      List<int[]> cs = choices(told, wm, lm, am);
      if (cs.size() > 500) return no(3);
      allBook = b;
      allChoices = cs;
      allCourses = new ArrayList<>();
      for (int[] c : cs) allCourses.add(course(books.get(b), people, c[0], c[1], c[2]));
      return yes(bad());
    }

    int bad() {
      int n = 0;
      for (Course c : allCourses) n += c.end != 0 ? 1 : 0;
      return n;
    }

    int ended(int e) {
      if (allCourses == null || e < 0 || e > 6) return -1;
      int n = 0;
      for (Course c : allCourses) n += c.end == e ? 1 : 0;
      return n;
    }

    int allOf(int what) {
      if (allCourses == null) return -1;
      int least = -1, most = -1, firstBad = -1, number = -1;
      for (int i = 0; i < allCourses.size(); i++) {
        Course c = allCourses.get(i);
        if (c.end != 0) { if (firstBad < 0) firstBad = i; continue; }
        if (least < 0 || c.ticks < least) least = c.ticks;
        if (c.ticks > most) { most = c.ticks; number = i; }
      }
      return switch (what) {
        case 0 -> allCourses.size();
        case 1 -> least;
        case 2 -> most;
        case 3, 4, 5 -> firstBad < 0 ? -1 : allChoices.get(firstBad)[what - 3];
        case 6 -> firstBad < 0 ? -1 : allCourses.get(firstBad).end;
        case 7 -> number;
        default -> -1;
      };
    }

    // ---- what a book lacks

    Set<Integer> reached(int b) {
      Set<Integer> found = new HashSet<>();
      reach(books.get(b), 0, found);
      return found;
    }

    static void reach(int[][] book, int k, Set<Integer> found) {
      if (k >= book.length || !found.add(k)) return;
      int[] s = book[k];
      if (s[0] == 2) { reach(book, s[2], found); reach(book, s[3], found); }
      else if (s[0] == 4) reach(book, s[1], found);
      else if (s[0] != 5) reach(book, k + 1, found);
    }

    int idle(int b) { return has(b) ? books.get(b).length - reached(b).size() : -1; }

    int look(int b, int k) {
      if (!has(b) || k < 0 || k >= books.get(b).length) return -1;
      int[] s = books.get(b)[k];
      boolean doable = s[0] > 1;
      for (int p : people) doable |= (p & 1 << s[1]) != 0;
      return (reached(b).contains(k) ? 1 : 0) + (doable ? 2 : 0);
    }

    int mends() {
      if (allCourses == null) return no(5);
      int[][] book = books.get(allBook);
      List<int[]> mends = new ArrayList<>();
      for (int k = 0; k < book.length; k++) {
        int[][] places = book[k][0] == 2 ? new int[][] {{0, 2}, {1, 3}} : book[k][0] == 4 ? new int[][] {{2, 1}} : new int[0][];
        for (int[] place : places) {
          for (int t = 0; t < book.length; t++) if (t != book[k][place[1]]) mends.add(new int[] {place[0], k, t, place[1]});
        }
      }
      for (int p = 0; p < people.size(); p++) {
        for (int s = 0; s < 8; s++) if ((people.get(p) & 1 << s) == 0) mends.add(new int[] {3, p, s, 0});
      }
      if (bad() == 0) { mend = null; return yes(0); }
      if (mends.size() * allChoices.size() > 20000) return no(3);
      mend = null;
      int n = 0;
      for (int[] m : mends) {
        int[][] other = new int[book.length][];
        for (int k = 0; k < book.length; k++) other[k] = book[k].clone();
        List<Integer> who = new ArrayList<>(people);
        if (m[0] == 3) who.set(m[1], who.get(m[1]) | 1 << m[2]);
        else other[m[1]][m[3]] = m[2];
        boolean cures = true;
        for (int[] c : allChoices) cures = cures && course(other, who, c[0], c[1], c[2]).end == 0;
        if (cures && mend == null) mend = m;
        n += cures ? 1 : 0;
      }
      return yes(n);
    }

    int mend(int what) { return mend == null || what < 0 || what > 2 ? -1 : mend[what]; }

    // ---- nights and logs

    /** One night as the document tells it, a tick at a time. */
    final class Night {
      final int[][] book;
      final int lies, away;
      final boolean[] isWrong = new boolean[8];
      final Set<String> seen = new HashSet<>();
      final Course c = new Course();
      int left = 0;
      boolean waits;

      Night(int[][] book, int wrongBits, int lies, int away) {
        this.book = book; this.lies = lies; this.away = away;
        for (int f = 0; f < facts; f++) isWrong[f] = (wrongBits & 1 << f) != 0;
      }

      void endAt(int end, int tick) { c.end = end; c.ticks = tick; }

      void tick(int t, int[] busy) {
        if (c.end >= 0) return;
        if (left == 0) begin(t, busy);
        if (c.end >= 0 || left == 0) return;
        left--;
        if (left == 0) over(t + 1);
      }

      void begin(int t, int[] busy) {
        while (true) {
          if (c.at == book.length) { endAt(5, t); return; }
          if (!waits && !seen.add(c.at + Arrays.toString(isWrong))) { endAt(4, t); return; }
          waits = false;
          int[] s = book[c.at];
          if (s[0] == 5) {
            boolean good = true;
            for (int f = 0; f < facts; f++) good &= !isWrong[f] || (goal & 1 << f) == 0;
            endAt(good ? 0 : 1, t);
            return;
          }
          if (s[0] == 4) { c.at = s[1]; continue; }
          if (s[0] == 3) { left = s[1]; return; }
          if (s[0] == 2) { left = 1; return; }
          int free = -1;
          boolean somebody = false;
          for (int p = people.size() - 1; p >= 0; p--) {
            if (can(p, s[1], away, people)) { somebody = true; if (busy[p] == 0) free = p; }
          }
          if (!somebody) { endAt(2, t); return; }
          if (free < 0) { waits = true; c.waited++; return; }
          if (s[4] >= 0 && !isWrong[s[4]]) { endAt(3, t); return; }
          busy[free] = s[3];
          left = s[3];
          return;
        }
      }

      void over(int t) {
        int[] s = book[c.at];
        int next = c.at + 1;
        if (s[0] <= 1) isWrong[s[2]] = s[0] == 1;
        if (s[0] == 2) next = isWrong[signs.get(s[1])] != ((lies & 1 << s[1]) != 0) ? s[2] : s[3];
        if (t > 5000) endAt(6, t);
        c.at = next;
      }
    }

    int nights(int b, int w, int l, int o, int ow, int ol, int away) {
      if (!has(b) || !has(o)) return no(1);
      if (!bits(w, l, ow, ol, away)) return no(2);
      Night one = new Night(books.get(b), w, l, away), two = new Night(books.get(o), ow, ol, away);
      int[] busy = new int[4];
      for (int t = 0; one.c.end < 0 || two.c.end < 0; t++) {
        one.tick(t, busy);
        two.tick(t, busy);
        for (int p = 0; p < 4; p++) busy[p] = Math.max(0, busy[p] - 1);
      }
      nights = new Course[] {one.c, two.c};
      return yes(Math.max(one.c.ticks, two.c.ticks));
    }

    int night(boolean second, int what) {
      if (nights == null || what < 0 || what > 2) return -1;
      Course c = nights[second ? 1 : 0];
      return what == 0 ? c.end : what == 1 ? c.ticks : c.waited;
    }

    int log(int s) {
      if (s < 0 || s > 23) return no(2);
      if (log.size() == 200) return no(3);
      log.add(s);
      return yes(log.size());
    }

    int clear() { int n = log.size(); log.clear(); return n; }

    int laid() {
      if (play == null) return no(5);
      List<Integer> p = play.path.subList(0, Math.min(300, play.path.size()));
      int[][] best = new int[p.size() + 1][log.size() + 1];
      for (int i = p.size() - 1; i >= 0; i--) {
        for (int j = log.size() - 1; j >= 0; j--) {
          best[i][j] = p.get(i).equals(log.get(j)) ? 1 + best[i + 1][j + 1] : Math.max(best[i + 1][j], best[i][j + 1]);
        }
      }
      left = p.size() - best[0][0];
      added = log.size() - best[0][0];
      return yes(best[0][0]);
    }

    int differ(int b, int o, int told, int wm, int lm, int am) {
      if (!has(b) || !has(o)) return no(1);
      if (!bits(told) || !mosts(wm, lm, am)) return no(2);
      List<int[]> cs = choices(told, wm, lm, am);
      if (cs.size() > 500) return no(3);
      int n = 0;
      for (int[] c : cs) {
        Course x = course(books.get(b), people, c[0], c[1], c[2]), y = course(books.get(o), people, c[0], c[1], c[2]);
        n += x.end != y.end || x.end == 0 && x.ticks != y.ticks ? 1 : 0;
      }
      return yes(n);
    }

    int count(int what) {
      int[] all = {facts, signs.size(), people.size(), books.size(), log.size(), tape.length()};
      return what < 0 || what > 5 ? -1 : all[what];
    }
  }

  /** A run of calls on one object and its model. */
  static final class Run {
    final Random r;
    final int seed;
    final NightBook x = new NightBook();
    final Model m = new Model();
    final StringBuilder told = new StringBuilder();

    final boolean counts;

    Run(int seed) { this.seed = seed; r = new Random(seed); counts = seed % 10 == 0; }

    void same(String call, int got, int want) {
      told.append(call).append(" = ").append(want).append('\n');
      String also = x.trouble() + " " + x.fault() + " " + x.where();
      String alsoDue = m.trouble + " " + m.fault + " " + (m.trouble == 4 ? m.place : -1);
      if (got != want || !also.equals(alsoDue)) {
        wrong++;
        if (wrong <= 5) System.out.println("seed " + seed + ": " + call + " answered " + got + " (" + also + "), due is " + want + " (" + alsoDue + ")\n" + told);
      }
    }

    int bitsArg() { return r.nextInt(40) == 0 ? (r.nextBoolean() ? -1 : 256) : r.nextInt(3) == 0 ? 0 : r.nextInt(256); }
    int bookArg() { return r.nextInt(30) == 0 ? r.nextInt(7) - 1 : r.nextInt(Math.max(1, m.books.size())); }
    int most() { return r.nextInt(40) == 0 ? (r.nextBoolean() ? -1 : 9) : r.nextInt(3) == 0 ? r.nextInt(9) : r.nextInt(3); }

    String number(int below) { int v = r.nextInt(Math.max(1, below)); return r.nextInt(8) == 0 && v < 10 ? "0" + v : "" + v; }
    String ticks() { return "" + (r.nextInt(12) == 0 ? 60 : 1 + r.nextInt(6)); }

    String stepText(int size) {
      int k = r.nextInt(20);
      if (k < 8 && m.facts > 0) {
        String s = "do " + number(r.nextInt(3) == 0 ? 8 : 2) + (r.nextInt(3) == 0 ? " wrong " : " right ") + number(m.facts) + " takes " + ticks();
        return r.nextInt(4) == 0 ? s + " if " + number(m.facts) + " harm" : s;
      }
      if (k < 14 && m.signs.size() > 0) return "ask " + number(m.signs.size()) + " then " + number(size) + " else " + number(size);
      if (k < 16) return "wait " + ticks();
      if (k < 18) return "go " + number(size);
      return "calm";
    }

    /** A binary counter over the first facts, so that plays become LONG, or nearly. */
    String counter() {
      int bits = 4 + r.nextInt(2);
      StringBuilder b = new StringBuilder();
      for (int i = 0; i < bits; i++) {
        String does = "do " + (r.nextInt(12) == 0 ? 1 : 0), takes = i + " takes " + (r.nextInt(4) == 0 ? 1 + r.nextInt(60) : 58 + r.nextInt(3));
        b.append("ask ").append(i).append(" then ").append(4 * i + 3).append(" else ").append(4 * i + 1);
        b.append(";").append(does).append(" wrong ").append(takes).append(r.nextInt(9) == 0 ? " if 7 harm" : "").append(";go ").append(4 * bits);
        b.append(";").append(does).append(" right ").append(takes).append(";");
      }
      for (int i = r.nextInt(3); i > 0; i--) b.append("wait ").append(1 + r.nextInt(60)).append(";");
      return b.append(r.nextInt(4) == 0 ? "calm" : "go 0").toString();
    }

    String text() {
      if (counts && r.nextInt(4) > 0) return counter();
      int size = r.nextInt(6) == 0 ? 22 + r.nextInt(4) : 1 + r.nextInt(8);
      StringBuilder b = new StringBuilder();
      for (int i = 0; i < size; i++) b.append(i > 0 ? (r.nextBoolean() ? ";" : " ;\n") : "").append(i == size - 1 && r.nextInt(3) > 0 ? "calm" : stepText(size));
      if (r.nextInt(3) == 0) spoil(b);
      return b.toString();
    }

    void spoil(StringBuilder b) {
      String some = "do ask;wait go calm 0 1 7 8 60 61 99 100 if harm right wrong takes then else X~\t \n;";
      for (int n = 1 + r.nextInt(2); n > 0 && b.length() > 0; n--) {
        int i = r.nextInt(b.length());
        switch (r.nextInt(4)) {
          case 0 -> b.deleteCharAt(i);
          case 1 -> b.insert(i, some.charAt(r.nextInt(some.length())));
          case 2 -> b.setLength(i);
          default -> b.setCharAt(i, some.charAt(r.nextInt(some.length())));
        }
      }
    }

    void feedWord(int[] w) {
      same("feed", x.feed(w[0], w[1], w[2], w[3], w[4]), m.feed(w));
    }

    void book() {
      String t = text();
      StringBuilder b = new StringBuilder(t);
      while (b.length() % 20 != 0) b.append((char) (r.nextBoolean() ? ' ' : r.nextInt(256)));
      for (int i = 0; i < b.length(); i += 20) {
        int[] w = new int[5];
        for (int k = 0; k < 20; k++) w[k / 4] = w[k / 4] << 8 | b.charAt(i + k);
        feedWord(w);
      }
      int n = r.nextInt(20) == 0 ? r.nextInt(700) - 20 : Math.min(t.length(), m.tape.length());
      same("book(" + n + ") of <" + t + ">", x.book(n), m.book(n));
    }

    void tellHouse() {
      switch (r.nextInt(4)) {
        case 0 -> same("fact()", x.fact(), m.fact());
        case 1 -> { int f = r.nextInt(m.facts + 2) - (r.nextInt(9) == 0 ? 1 : 0); same("sign(" + f + ")", x.sign(f), m.sign(f)); }
        case 2 -> { int s = r.nextInt(3) == 0 ? bitsArg() : r.nextInt(4); same("person(" + s + ")", x.person(s), m.person(s)); }
        default -> { int g = bitsArg(); same("goal(" + g + ")", x.goal(g) ? 1 : 0, m.goal(g)); }
      }
    }

    void playOnce() {
      int b = bookArg(), w = bitsArg(), l = bitsArg(), a = r.nextInt(3) == 0 ? bitsArg() : r.nextInt(3);
      same("play(" + b + ", " + w + ", " + l + ", " + a + ")", x.play(b, w, l, a), m.play(b, w, l, a));
      for (int what = r.nextInt(5) - 1; what < 4 + r.nextInt(2); what++) same("played(" + what + ")", x.played(what), m.played(what));
      int i = r.nextInt(9) - 1;
      same("path(" + i + ")", x.path(i), m.path(i));
    }

    void allOnce() {
      int b = bookArg(), f = bitsArg(), wm = most(), lm = most(), am = most();
      same("all(" + b + ", " + f + ", " + wm + ", " + lm + ", " + am + ")", x.all(b, f, wm, lm, am), m.all(b, f, wm, lm, am));
      for (int e = -1; e <= 7; e++) same("ended(" + e + ")", x.ended(e), m.ended(e));
      for (int what = -1; what <= 8; what++) same("allOf(" + what + ")", x.allOf(what), m.allOf(what));
    }

    void mendOnce() {
      same("mends()", x.mends(), m.mends());
      for (int what = -1; what <= 3; what++) same("mend(" + what + ")", x.mend(what), m.mend(what));
    }

    void nightsOnce() {
      int b = bookArg(), w = bitsArg(), l = bitsArg(), o = bookArg(), ow = bitsArg(), ol = bitsArg(), a = r.nextInt(2) == 0 ? 0 : bitsArg();
      same("nights(" + b + ", " + w + ", " + l + ", " + o + ", " + ow + ", " + ol + ", " + a + ")", x.nights(b, w, l, o, ow, ol, a), m.nights(b, w, l, o, ow, ol, a));
      for (int what = -1; what <= 3; what++) {
        same("night(false, " + what + ")", x.night(false, what), m.night(false, what));
        same("night(true, " + what + ")", x.night(true, what), m.night(true, what));
      }
    }

    void logOnce() {
      for (int n = r.nextInt(12); n > 0; n--) {
        int s = r.nextInt(30) == 0 ? r.nextInt(30) - 3 : r.nextInt(8);
        same("log(" + s + ")", x.log(s), m.log(s));
      }
      same("laid()", x.laid(), m.laid());
      same("apart(true)", x.apart(true), m.added);
      same("apart(false)", x.apart(false), m.left);
      if (r.nextInt(3) == 0) same("clear()", x.clear(), m.clear());
    }

    void readOnce() {
      int b = bookArg(), k = r.nextInt(10) - 1, what = r.nextInt(7) - 1;
      same("steps(" + b + ")", x.steps(b), m.has(b) ? m.books.get(b).length : -1);
      same("step(" + b + ", " + k + ", " + what + ")", x.step(b, k, what), m.step(b, k, what));
      same("idle(" + b + ")", x.idle(b), m.idle(b));
      same("look(" + b + ", " + k + ")", x.look(b, k), m.look(b, k));
      int c = r.nextInt(8) - 1;
      same("count(" + c + ")", x.count(c), m.count(c));
    }

    void differOnce() {
      int b = bookArg(), o = bookArg(), f = bitsArg(), wm = most(), lm = most(), am = most();
      same("differ(" + b + ", " + o + ", " + f + ", " + wm + ", " + lm + ", " + am + ")", x.differ(b, o, f, wm, lm, am), m.differ(b, o, f, wm, lm, am));
    }

    void go() {
      for (int i = 0; i < 8 && counts; i++) {
        same("fact()", x.fact(), m.fact());
        same("sign(" + i + ")", x.sign(i), m.sign(i));
      }
      if (counts) same("person(3)", x.person(3), m.person(3));
      for (int i = r.nextInt(14); i > 0; i--) tellHouse();
      for (int i = 0; i < 40; i++) {
        switch (r.nextInt(12)) {
          case 0 -> tellHouse();
          case 1, 2 -> book();
          case 3, 4 -> playOnce();
          case 5, 6 -> allOnce();
          case 7 -> mendOnce();
          case 8, 9 -> nightsOnce();
          case 10 -> logOnce();
          default -> { if (r.nextBoolean()) readOnce(); else differOnce(); }
        }
      }
    }
  }

  public static void main(String[] args) {
    int runs = args.length > 0 ? Integer.parseInt(args[0]) : 1500;
    for (int seed = 1; seed <= runs; seed++) new Run(seed).go();
    System.out.println(wrong == 0 ? "all answers are as the model's" : wrong + " answers are not as the model's");
    if (wrong != 0) System.exit(1);
  }
}
