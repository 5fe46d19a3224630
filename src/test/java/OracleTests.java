import java.math.BigInteger;
import java.util.ArrayDeque;
import java.util.ArrayList;
import java.util.Arrays;
import java.util.Deque;
import java.util.HashMap;
import java.util.LinkedHashMap;
import java.util.List;
import java.util.Map;
import java.util.Random;
import java.util.TreeMap;

/**
 * Random runs of calls on the program and on a second model of the document, which is written as plainly as can be:
 * it tries every ROW, every order, every slip. Each answer that differs is printed.
 */
public final class OracleTests {
  private static final int CODE = -99000000;
  private static int wrong = 0;
  private static long compared = 0;
  private static final Map<String, int[]> TALLY = new TreeMap<>();

  public static void main(String[] args) {
    int runs = args.length > 0 ? Integer.parseInt(args[0]) : 600;
    for (int seed = 0; seed < runs && wrong < 20; seed++) {
      new Run(seed).go();
    }
    for (int seed = 0; seed < 20 * runs && wrong < 20; seed++) {
      textRun(seed);
    }
    for (Map.Entry<String, int[]> e : TALLY.entrySet()) {
      if (e.getValue()[0] == 0 || e.getValue()[1] == 0) {
        wrong++;
        System.out.println("too thin: " + e.getKey() + " was told " + e.getValue()[0] + " and refused " + e.getValue()[1] + " times");
      }
    }
    System.out.println(compared + " answers compared, " + wrong + " differ");
    if (wrong != 0) System.exit(1);
  }

  // ---------------------------------------------------------------- texts

  private static void textRun(int seed) {
    Random r = new Random(seed);
    RubatoDesk x = new RubatoDesk();
    Oracle o = new Oracle();
    StringBuilder story = new StringBuilder();
    for (int i = 0; i < 8; i++) {
      String text = r.nextInt(4) == 0 ? mutated(r, deskText(r)) : mutated(r, mutated(r, deskText(r)));
      if (r.nextInt(3) == 0) text = soup(r);
      byte[] bytes = bytesOf(text);
      story.append("\n  text ").append(text.replace("\n", "\\n"));
      feedAll(x, o, bytes);
      same(seed, story, "desk(" + bytes.length + ")", x.desk(bytes.length), o.desk(bytes.length));
      same(seed, story, "fault(0)", x.fault(0), o.fault(0));
      same(seed, story, "fault(1)", x.fault(1), o.fault(1));
      same(seed, story, "count(10)", x.count(10), o.count(10));
      same(seed, story, "count(2)", x.count(2), o.count(2));
    }
  }

  private static void same(long seed, CharSequence story, String call, long got, long due) {
    compared++;
    if (got != due) {
      wrong++;
      System.out.println("seed " + seed + ": " + call + " answered " + got + ", the oracle " + due + story);
    }
  }

  private static byte[] bytesOf(String text) {
    byte[] b = new byte[text.length()];
    for (int i = 0; i < b.length; i++) b[i] = (byte) text.charAt(i);
    return b;
  }

  private static void feedAll(RubatoDesk x, Oracle o, byte[] bytes) {
    for (int i = 0; i < bytes.length; i += 20) {
      int[] w = new int[5];
      for (int k = 0; k < 20; k++) {
        int b = i + k < bytes.length ? bytes[i + k] & 255 : 0;
        w[k / 4] = w[k / 4] << 8 | b;
      }
      same(-1, "", "feed", x.feed(w[0], w[1], w[2], w[3], w[4]), o.feed(w[0], w[1], w[2], w[3], w[4]));
    }
  }

  private static final String[] BITS = {"desk", ";", ":", "piece", "player", "glad", "may", "slips", "up", "down", "has", "owes",
      "temper", "who", "bar", "want", "draw", "last", "store", "or", "and", "not", "(", ")", "[", "]", "=", "<", ">", "+", "-", "*",
      "0", "9", "10", "20", "21", "999", "1000", "007", "0000", "x", "X", "\t", "\u00e9", "ups", "desk;", "piece up 1;", "glad : ",
      "may : ", "player ", "not not not ", "[ [", "( (", "1 = 1", "\n", "/", "@", "`", "{", "!"};

  private static String soup(Random r) {
    StringBuilder b = new StringBuilder(r.nextInt(8) == 0 ? "" : "desk;");
    int n = r.nextInt(30);
    for (int i = 0; i < n; i++) {
      b.append(BITS[r.nextInt(BITS.length)]);
      if (r.nextInt(3) != 0) b.append(r.nextInt(6) == 0 ? '\n' : ' ');
    }
    return b.toString();
  }

  private static String mutated(Random r, String text) {
    int at = text.isEmpty() ? 0 : r.nextInt(text.length());
    switch (r.nextInt(6)) {
      case 0: return text.substring(0, at);
      case 1: return text.substring(0, at) + BITS[r.nextInt(BITS.length)] + text.substring(at);
      case 2: return text.substring(0, at) + " " + BITS[r.nextInt(BITS.length)] + " " + text.substring(at);
      case 3: return text.isEmpty() ? text : text.substring(0, at) + text.substring(at + 1);
      case 4: return text.substring(0, at) + (char) r.nextInt(256) + text.substring(at);
      default: return text;
    }
  }

  private static final String[] NARROW = {"draw = 0 - 1 or draw = 1", "draw = 0 or draw = 1", "draw * draw = 4", "draw + last = 1 or draw = 0",
      "[ draw = 0 or draw = 2 - bar * 2 ] and store < 20", "draw = temper - who or draw = 0 - 2", "draw = 2 or store < 3 and draw = 0 - 1"};

  /** Long pieces under a law that leaves few draws, so that every ROW can still be tried. */
  private static String longDesk(Random r) {
    StringBuilder b = new StringBuilder("desk;");
    for (int i = 1 + r.nextInt(2); i > 0; i--) {
      b.append("piece");
      for (int k = 8 + r.nextInt(5); k > 0; k--) b.append(r.nextBoolean() ? " up " : " down ").append(r.nextInt(4));
      b.append(";");
    }
    b.append("piece up 2;player has 2 temper 1;player owes 3 temper 2;player has 18;may : ").append(NARROW[r.nextInt(NARROW.length)]);
    if (r.nextBoolean()) b.append("; glad : ").append(sum(r, 0));
    return b.append(";slips ").append(r.nextInt(11)).append(";").toString();
  }

  static String deskText(Random r) {
    if (r.nextInt(15) == 0) return longDesk(r);
    StringBuilder b = new StringBuilder("desk;");
    int pieces = r.nextInt(5), players = r.nextInt(8) == 0 ? r.nextInt(2) : 1 + r.nextInt(5);
    List<String> lines = new ArrayList<>();
    for (int i = 0; i < pieces; i++) {
      StringBuilder l = new StringBuilder("piece");
      int bars = r.nextInt(5);
      for (int k = 0; k < bars; k++) l.append(r.nextBoolean() ? " up " : " down ").append(r.nextInt(r.nextInt(3) == 0 ? 10 : 4));
      lines.add(l.toString());
    }
    for (int i = 0; i < players; i++) {
      StringBuilder l = new StringBuilder("player");
      for (int k = r.nextInt(4); k > 0; k--) {
        int f = r.nextInt(4);
        int edge = r.nextInt(3) == 0 ? 17 + r.nextInt(4) : r.nextInt(6);
        if (f < 2) l.append(" has ").append(edge);
        else if (f == 2) l.append(" owes ").append(edge);
        else l.append(" temper ").append(r.nextInt(10));
      }
      lines.add(l.toString());
    }
    for (int k = r.nextInt(3); k > 0; k--) lines.add("glad : " + sum(r, 0));
    for (int k = r.nextInt(3); k > 0; k--) lines.add("may : " + (r.nextInt(2) == 0 ? mildTruth(r) : truth(r, 0)));
    if (r.nextInt(3) != 0) lines.add("slips " + r.nextInt(11));
    java.util.Collections.shuffle(lines, r);
    for (String l : lines) b.append(r.nextInt(5) == 0 ? "\n " : "").append(l).append(r.nextInt(5) == 0 ? " ;" : ";");
    String text = b.toString();
    return text.length() > 900 ? "desk;" : text;
  }

  private static String mildTruth(Random r) {
    String[] some = {"draw < 2", "not [ draw = last and last > 0 ]", "store - draw > 0 - 5 or draw < 1", "draw + last < 3",
        "temper > 3 or draw > 0 - 2", "not who = 1 or draw = 0", "[ bar = 0 ] or draw * last < 2", "store > 0 - 18"};
    return some[r.nextInt(some.length)];
  }

  private static final String[] WORDS = {"who", "temper", "piece", "bar", "want", "draw", "last", "store"};

  private static String atom(Random r, int depth) {
    int k = r.nextInt(10);
    if (k < 2) return "" + r.nextInt(r.nextInt(4) == 0 ? 1000 : 5);
    if (k == 2 && depth < 5) return "(" + sum(r, depth + 1) + " )";
    if (k < 6) return "draw";
    return WORDS[r.nextInt(WORDS.length)];
  }

  private static String product(Random r, int depth) {
    StringBuilder b = new StringBuilder(atom(r, depth));
    for (int k = r.nextInt(3) * r.nextInt(2); k > 0; k--) b.append("*").append(atom(r, depth));
    return b.toString();
  }

  private static String sum(Random r, int depth) {
    StringBuilder b = new StringBuilder(product(r, depth));
    for (int k = r.nextInt(3); k > 0; k--) b.append(r.nextBoolean() ? " + " : " - ").append(product(r, depth));
    return b.toString();
  }

  private static String unit(Random r, int depth) {
    int k = r.nextInt(6);
    if (k == 0 && depth < 5) return "not " + unit(r, depth + 1);
    if (k == 1 && depth < 5) return "[" + truth(r, depth + 1) + "]";
    return sum(r, depth) + " " + "=<>".charAt(r.nextInt(3)) + " " + sum(r, depth);
  }

  private static String truth(Random r, int depth) {
    StringBuilder b = new StringBuilder(unit(r, depth));
    for (int k = r.nextInt(3); k > 0; k--) b.append(r.nextBoolean() ? " or " : " and ").append(unit(r, depth));
    return b.toString();
  }

  // ---------------------------------------------------------------- runs of calls

  private static final class Run {
    final long seed;
    final Random r;
    final RubatoDesk x = new RubatoDesk();
    final Oracle o = new Oracle();
    final StringBuilder story = new StringBuilder();

    Run(long seed) { this.seed = seed; r = new Random(seed * 7919 + 1); }

    void go() {
      long ahead = compared;
      tellDesk();
      // nothing is promised behind the 512th call, and a desk and what comes then are 80 at most
      while (compared - ahead < 430 && wrong < 20) {
        if (r.nextInt(90) == 0) tellDesk();
        one();
      }
    }

    void tellDesk() {
      String text = deskText(r);
      if (r.nextInt(10) == 0) text = mutated(r, text);
      story.append("\n  text ").append(text.replace("\n", "\\n"));
      if (x.count(9) > 0) { x.desk(0); o.desk(0); }
      feedAll(x, o, bytesOf(text));
      check("desk", x.desk(text.length()), o.desk(text.length()), text.length());
    }

    void check(String name, long got, long due, long... args) {
      String call = name + Arrays.toString(args);
      int[] t = TALLY.computeIfAbsent(name, k -> new int[2]);
      t[due <= CODE && due > CODE - 50 ? 1 : 0]++;
      story.append("\n  ").append(call).append(" -> ").append(due);
      same(seed, story, call, got, due);
    }

    int p() { return r.nextInt(25) == 0 ? r.nextInt(9) - 2 : r.nextInt(Math.max(1, o.now.desk.players.size())); }
    int piece() { return r.nextInt(25) == 0 ? r.nextInt(8) - 2 : r.nextInt(Math.max(1, o.now.desk.pieces.size())); }
    int bar() { return (r.nextInt(5) == 0 ? r.nextInt(14) : r.nextInt(5)) - r.nextInt(2); }
    int goal() { return r.nextInt(12) == 0 ? r.nextInt(50) - 25 : r.nextInt(9) - 4 + (r.nextInt(4) == 0 ? 10 : 0); }
    int tray() { return r.nextInt(25) == 0 ? r.nextInt(8) - 2 : r.nextInt(4) < 3 ? r.nextInt(2) : r.nextInt(4); }
    int what(int most) { return r.nextInt(12) == 0 ? r.nextInt(27) - 2 : r.nextInt(2) == 0 ? r.nextInt(most + 1) : 10 + (r.nextInt(4) == 0 ? r.nextInt(12) : r.nextInt(5)); }
    int small(int most) { return r.nextInt(most + 3) - 1; }

    void one() {
      int a = p(), b = piece(), c, d;
      switch (r.nextInt(46)) {
        case 0: c = small(3); check("player", x.player(a, c), o.player(a, c), a, c); break;
        case 1: c = bar(); check("wants", x.wants(b, c), o.wants(b, c), b, c); break;
        case 2: check("bars", x.bars(b), o.bars(b), b); break;
        case 3: { c = bar(); d = r.nextInt(7) - 3; int e = r.nextInt(7) - 3;
          check("glad", x.glad(a, b, c, d, e), o.glad(a, b, c, d, e), a, b, c, d, e); break; }
        case 4: case 5: check("play", x.play(a, b), o.play(a, b), a, b); break;
        case 6: check("perform", x.perform(a, b), o.perform(a, b), a, b); break;
        case 7: c = p(); d = r.nextInt(8) == 0 ? r.nextInt(50) - 5 : 1 + r.nextInt(8);
          check("lend", x.lend(a, c, d), o.lend(a, c, d), a, c, d); break;
        case 8: c = r.nextInt(12) - 1; check("temper", x.temper(a, c), o.temper(a, c), a, c); break;
        case 9: if (r.nextInt(2) == 0) check("play", x.friday(), o.friday()); break;
        case 10: c = r.nextInt(6) == 0 ? r.nextInt(14) - 1 : 1 + r.nextInt(2); check("undo", x.undo(c), o.undo(c), c); break;
        case 11: case 12: deeds(); c = tray(); d = small(3); check("judge", x.judge(c, d), o.judge(c, d), c, d); break;
        case 13: if (r.nextInt(2) == 0) deeds(); c = tray(); check("does", x.does(c), o.does(c), c); break;
        case 14: c = r.nextInt(); d = r.nextInt(3) == 0 ? r.nextInt(44) - 1 : 1 + r.nextInt(5);
          check("term", x.term(c, d), o.term(c, d), c, d); break;
        case 15: case 16: c = what(2); check("comes", x.comes(a, b, c), o.comes(a, b, c), a, b, c); break;
        case 17: case 18: case 19: c = goal(); d = what(1); check("best", x.best(a, b, c, d), o.best(a, b, c, d), a, b, c, d); break;
        case 20: c = goal(); check("rows", x.rows(a, b, c), o.rows(a, b, c), a, b, c); break;
        case 21: check("thriftiest", x.thriftiest(a, b), o.thriftiest(a, b), a, b); break;
        case 22: c = goal(); d = r.nextInt(20) == 0 ? (r.nextBoolean() ? Integer.MIN_VALUE : Integer.MAX_VALUE) : r.nextInt(40) - 10;
          check("least", x.least(a, b, c, d), o.least(a, b, c, d), a, b, c, d); break;
        case 23: check("squarest", x.squarest(a, b), o.squarest(a, b), a, b); break;
        case 24: case 25: { int set = r.nextInt(10) == 0 ? r.nextInt(40) - 10 : r.nextInt(1 << o.now.desk.pieces.size());
          c = goal(); d = r.nextInt(10) == 0 ? r.nextInt(20) - 2 : r.nextInt(3) == 0 ? 0 : 10 + r.nextInt(4);
          check("order", x.order(a, set, c, d), o.order(a, set, c, d), a, set, c, d); break; }
        case 26: c = goal(); check("mostPieces", x.mostPieces(a, c), o.mostPieces(a, c), a, c); break;
        case 27: check("gladdest", x.gladdest(b), o.gladdest(b), b); break;
        case 28: c = p(); d = piece(); check("lends", x.lends(a, b, c, d), o.lends(a, b, c, d), a, b, c, d); break;
        case 29: case 30: c = p(); d = what(1); check("reply", x.reply(a, c, b, d), o.reply(a, c, b, d), a, c, b, d); break;
        case 31: case 32: { c = hear(a, b); d = end(a); check("heard", x.heard(c, a, b, d), o.heard(c, a, b, d), c, a, b, d); break; }
        case 33: case 34: { c = hear(a, b); d = end(a); int e = bar();
          check("sure", x.sure(c, a, b, d, e), o.sure(c, a, b, d, e), c, a, b, d, e); break; }
        case 35: c = hear(a, b); check("tempers", x.tempers(c, a, b), o.tempers(c, a, b), c, a, b); break;
        case 36: case 37: c = hear(a, b); check("next", x.next(c, a, b), o.next(c, a, b), c, a, b); break;
        case 38: c = goal(); d = small(1); check("chance", x.chance(a, b, c, d), o.chance(a, b, c, d), a, b, c, d); break;
        case 39: c = r.nextInt(105) - 2; check("putBy", x.putBy(a, b, c), o.putBy(a, b, c), a, b, c); break;
        case 40: c = tray(); d = small(3); { int n = r.nextInt(6) == 0 ? r.nextInt(46) - 2 : r.nextInt(4);
          check("numbers", x.numbers(c, d, n), o.numbers(c, d, n), c, d, n); break; }
        case 41: c = tray(); d = small(4); { long v = r.nextInt(3) == 0 ? r.nextLong() : r.nextInt(400) - 200;
          check("write", x.write(c, d, v), o.write(c, d, v), c, d, v); break; }
        case 42: c = tray(); d = goal(); check("lists", x.lists(c, a, b, d), o.lists(c, a, b, d), c, a, b, d);
          for (int i = 0; i < 4; i++) check("heard", x.heard(c, a, b, 99), o.heard(c, a, b, 99), c, a, b, 99); break;
        case 43: c = r.nextInt(4) - 1; check("image", x.image(c), o.image(c), c); break;
        case 44: c = r.nextInt(4) - 1; check("restore", x.restore(c), o.restore(c), c); break;
        default: for (int w = -1; w <= 11; w++) same(seed, story, "count(" + w + ")", x.count(w), o.count(w)); break;
      }
    }

    int end(int a) { return r.nextInt(3) == 0 ? 99 : r.nextInt(10) == 0 ? r.nextInt(46) - 23 : o.ok(a) ? o.now.store[a] + r.nextInt(5) - 2 : 0; }

    int hear(int a, int b) {
      int t = tray();
      if (t < 0 || t > 3 || r.nextInt(6) == 0) return t;
      int n = o.okPiece(b) ? o.now.desk.pieces.get(b).length : r.nextInt(4);
      if (r.nextInt(20) == 0) n++;
      int sort = r.nextInt(4);
      check("numbers", x.numbers(t, sort, n), o.numbers(t, sort, n), t, sort, n);
      boolean likely = r.nextBoolean() && o.ok(a) && o.okPiece(b);
      int[] draws = likely ? o.comesRow(a, b, r.nextInt(10)) : null;
      for (int i = 0; i < n; i++) {
        long v = r.nextInt(2) == 0 ? 9 : r.nextInt(5) - 2;
        if (likely && v != 9 && i < draws.length) v = draws[i];
        if (r.nextInt(60) == 0) v = r.nextInt(14) - 5;
        check("write", x.write(t, i, v), o.write(t, i, v), t, i, v);
      }
      return t;
    }

    void deeds() {
      int t = r.nextInt(4), n = r.nextInt(7), sort = 1 + r.nextInt(3);
      check("numbers", x.numbers(t, sort, n), o.numbers(t, sort, n), t, sort, n);
      for (int i = 0; i < n; i++) {
        long v;
        switch (r.nextInt(6)) {
          case 0: v = -1; break;
          case 1: v = 10 * p() + piece(); break;
          case 2: v = 100 + 10 * p() + piece(); break;
          case 3: v = 1000 + 1000 * p() + 100 * p() + 1 + r.nextInt(6); break;
          case 4: v = r.nextInt(12) == 0 ? r.nextInt(20000) - 5000 : 10 * p() + piece(); break;
          default: v = r.nextInt(12) == 0 ? r.nextLong() : -1; break;
        }
        check("write", x.write(t, i, v), o.write(t, i, v), t, i, v);
      }
    }
  }

  // ---------------------------------------------------------------- the second model

  private interface Num { int of(int[] w); }
  private interface Truth { boolean of(int[] w); }

  private static final class Desk {
    final List<int[]> pieces = new ArrayList<>();
    final List<int[]> players = new ArrayList<>();
    Num glad = null;
    Truth may = null;
    int slips = 0;
    int lines = 0;
  }

  private static final class Fault extends RuntimeException {
    private static final long serialVersionUID = 1;
    final int kind, place;
    Fault(int kind, int place) { super(null, null, false, false); this.kind = kind; this.place = place; }
  }

  private record Token(String s, int place, boolean bad) { }

  /**
   * Reads by a list of what is still to come, as a pushdown automaton does: no method calls itself. What it reads in a
   * law is worked out from the tokens afterwards.
   */
  private static final class Text {
    final List<Token> tokens = new ArrayList<>();
    final int length;

    Text(String text) {
      length = text.length();
      int i = 0;
      while (i < length) {
        char c = text.charAt(i);
        int j = i;
        if (c == ' ' || c == '\n') { i++; continue; }
        if (c >= 'a' && c <= 'z') while (j < length && text.charAt(j) >= 'a' && text.charAt(j) <= 'z') j++;
        else if (c >= '0' && c <= '9') while (j < length && text.charAt(j) >= '0' && text.charAt(j) <= '9') j++;
        else j = i + 1;
        String s = text.substring(i, j);
        boolean bad = Character.isDigit(c) && c < 128 ? s.length() > 3
            : !(c >= 'a' && c <= 'z') && ";:+-*()[]=<>".indexOf(c) < 0;
        tokens.add(new Token(s, i, bad));
        i = j;
      }
    }

    Desk read() {
      Desk d = new Desk();
      Deque<String> todo = new ArrayDeque<>(List.of("desk", ";", "LINES"));
      Deque<Integer> depths = new ArrayDeque<>();
      int depth = 0;
      int[] piece = null;
      List<Integer> wants = new ArrayList<>();
      String law = null;
      List<String> lawTokens = new ArrayList<>();
      String flag = null;
      int i = 0;
      while (true) {
        Token t = i < tokens.size() ? tokens.get(i) : null;
        if (t != null && t.bad) {
          throw new Fault(1, t.place);
        }
        String s = t == null ? "" : t.s;
        int place = t == null ? length : t.place;
        boolean number = !s.isEmpty() && Character.isDigit(s.charAt(0));
        if (todo.isEmpty()) throw new IllegalStateException();
        String want = todo.pop();
        switch (want) {
          case "LINES":
            if (t == null) return d;
            push(todo, "LINE", ";", "LINES");
            continue;
          case "LINE":
            switch (s) {
              case "piece": if (d.pieces.size() == 4) throw new Fault(4, place); wants = new ArrayList<>(); push(todo, "BARS"); break;
              case "player": if (d.players.size() == 5) throw new Fault(4, place); d.players.add(new int[2]); push(todo, "FLAGS"); break;
              case "glad": law = "glad"; lawTokens = new ArrayList<>(); push(todo, ":", "SUM", "ENDLAW"); break;
              case "may": law = "may"; lawTokens = new ArrayList<>(); push(todo, ":", "TRUTH", "ENDLAW"); break;
              case "slips": push(todo, "N10"); flag = "slips"; break;
              default: throw new Fault(2, place);
            }
            i++;
            continue;
          case "BARS":
            if (s.equals("up") || s.equals("down")) {
              if (wants.size() == 12) throw new Fault(4, place);
              flag = s; i++; push(todo, "N9", "BARS");
            } else {
              piece = wants.stream().mapToInt(k -> k).toArray(); d.pieces.add(piece);
            }
            continue;
          case "FLAGS":
            if (s.equals("has") || s.equals("owes")) { flag = s; i++; push(todo, "N20", "FLAGS"); }
            else if (s.equals("temper")) { flag = s; i++; push(todo, "N9", "FLAGS"); }
            continue;
          case "N9": case "N10": case "N20": {
            if (!number) throw new Fault(2, place);
            int v = Integer.parseInt(s);
            if (v > Integer.parseInt(want.substring(1))) throw new Fault(3, place);
            i++;
            int[] last = d.players.isEmpty() ? new int[2] : d.players.get(d.players.size() - 1);
            switch (flag) {
              case "up": wants.add(v); break;
              case "down": wants.add(-v); break;
              case "has": last[0] = v; break;
              case "owes": last[0] = -v; break;
              case "temper": last[1] = v; break;
              default: d.slips = v; break;
            }
            continue;
          }
          case "TRUTH": push(todo, "BOTH", "ORS"); continue;
          case "ORS": if (s.equals("or")) { i++; lawTokens.add(s); push(todo, "BOTH", "ORS"); } continue;
          case "BOTH": push(todo, "UNIT", "ANDS"); continue;
          case "ANDS": if (s.equals("and")) { i++; lawTokens.add(s); push(todo, "UNIT", "ANDS"); } continue;
          case "UNIT":
            if (s.equals("not")) { if (depth == 6) throw new Fault(4, place); depth++; i++; lawTokens.add(s); push(todo, "UNIT", "OUT"); }
            else if (s.equals("[")) { if (depth == 6) throw new Fault(4, place); depth++; i++; lawTokens.add(s); push(todo, "TRUTH", "]", "OUT"); }
            else push(todo, "SUM", "CMP", "SUM");
            continue;
          case "OUT": depth--; continue;
          case "CMP":
            if (!s.equals("=") && !s.equals("<") && !s.equals(">")) throw new Fault(2, place);
            i++; lawTokens.add(s); continue;
          case "SUM": push(todo, "TERM", "ADDS"); continue;
          case "ADDS": if (s.equals("+") || s.equals("-")) { i++; lawTokens.add(s); push(todo, "TERM", "ADDS"); } continue;
          case "TERM": push(todo, "ATOM", "MULS"); continue;
          case "MULS": if (s.equals("*")) { i++; lawTokens.add(s); push(todo, "ATOM", "MULS"); } continue;
          case "ATOM":
            if (s.equals("(")) { if (depth == 6) throw new Fault(4, place); depth++; i++; lawTokens.add(s); push(todo, "SUM", ")", "OUT"); }
            else if (number || Arrays.asList(WORDS).contains(s)) { i++; lawTokens.add(s); }
            else throw new Fault(2, place);
            continue;
          case "ENDLAW": {
            Law l = new Law(lawTokens);
            if (law.equals("glad")) d.glad = l.num(0, lawTokens.size()); else d.may = l.truth(0, lawTokens.size());
            continue;
          }
          default:
            if (!s.equals(want)) throw new Fault(2, place);
            if (want.equals(";")) d.lines++;
            if (want.equals(")") || want.equals("]")) lawTokens.add(s);
            i++;
            continue;
        }
      }
    }

    private static void push(Deque<String> todo, String... s) {
      for (int i = s.length - 1; i >= 0; i--) todo.push(s[i]);
    }
  }

  /** Splits the tokens of a right law at its last joint of the weakest kind that stands outside all brackets. */
  private static final class Law {
    final List<String> t;
    Law(List<String> t) { this.t = t; }

    int lastOutside(int from, int to, String... joints) {
      int open = 0;
      for (int i = to - 1; i >= from; i--) {
        String s = t.get(i);
        if (s.equals(")") || s.equals("]")) open++;
        if (s.equals("(") || s.equals("[")) open--;
        if (open == 0 && Arrays.asList(joints).contains(s)) return i;
      }
      return -1;
    }

    static int keep(long v) { return (int) Math.max(-1_000_000, Math.min(1_000_000, v)); }

    Num num(int from, int to) {
      int at = lastOutside(from, to, "+", "-");
      if (at < 0) at = lastOutside(from, to, "*");
      if (at >= 0) {
        Num a = num(from, at), b = num(at + 1, to);
        switch (t.get(at)) {
          case "+": return w -> keep((long) a.of(w) + b.of(w));
          case "-": return w -> keep((long) a.of(w) - b.of(w));
          default: return w -> keep((long) a.of(w) * b.of(w));
        }
      }
      String s = t.get(from);
      if (s.equals("(")) return num(from + 1, to - 1);
      int word = Arrays.asList(WORDS).indexOf(s);
      if (word >= 0) return w -> w[word];
      int n = Integer.parseInt(s);
      return w -> n;
    }

    Truth truth(int from, int to) {
      int at = lastOutside(from, to, "or");
      if (at >= 0) { Truth a = truth(from, at), b = truth(at + 1, to); return w -> a.of(w) || b.of(w); }
      at = lastOutside(from, to, "and");
      if (at >= 0) { Truth a = truth(from, at), b = truth(at + 1, to); return w -> a.of(w) && b.of(w); }
      if (t.get(from).equals("not")) { Truth a = truth(from + 1, to); return w -> !a.of(w); }
      if (t.get(from).equals("[")) return truth(from + 1, to - 1);
      at = lastOutside(from, to, "=", "<", ">");
      Num a = num(from, at), b = num(at + 1, to);
      switch (t.get(at)) {
        case "=": return w -> a.of(w) == b.of(w);
        case "<": return w -> a.of(w) < b.of(w);
        default: return w -> a.of(w) > b.of(w);
      }
    }
  }

  private static final class Now {
    Desk desk = new Desk();
    int[] store = new int[5], joy = new int[5], temper = new int[5];
    boolean[] barred = new boolean[5];
    int week = 0;

    Now copy() {
      Now n = new Now();
      n.desk = desk; n.store = store.clone(); n.joy = joy.clone(); n.temper = temper.clone(); n.barred = barred.clone(); n.week = week;
      return n;
    }

    int bits() { int b = 0; for (int i = 0; i < 5; i++) if (barred[i]) b |= 1 << i; return b; }
    int joys() { return Arrays.stream(joy).sum(); }
    int stores() { return Arrays.stream(store).sum(); }
  }

  private record Row(int[] draws, int gladness, int end) { }

  private static final class Oracle {
    StringBuilder tape = new StringBuilder();
    int faultKind = 0, faultPlace = -1;
    Now now = new Now();
    Deque<Now> undo = new ArrayDeque<>();
    long[][] trays = new long[4][];
    int[] sorts = new int[4];
    Now[] images = new Now[2];
    int gladness;

    boolean ok(int p) { return p >= 0 && p < now.desk.players.size(); }
    boolean okPiece(int b) { return b >= 0 && b < now.desk.pieces.size(); }
    static boolean okGoal(int g) { return g >= -20 && g <= 20; }

    int feed(int... w) {
      if (tape.length() + 20 > 900) return CODE - 5;
      for (int v : w) for (int s = 24; s >= 0; s -= 8) tape.append((char) (v >> s & 255));
      return tape.length();
    }

    int desk(int n) {
      if (n < 0 || n > tape.length()) return CODE - 3;
      String text = tape.substring(0, n);
      tape.setLength(0);
      try {
        Desk d = new Text(text).read();
        faultKind = 0; faultPlace = -1;
        now = new Now();
        now.desk = d;
        for (int i = 0; i < d.players.size(); i++) { now.store[i] = d.players.get(i)[0]; now.temper[i] = d.players.get(i)[1]; }
        undo.clear();
        return d.lines;
      } catch (Fault f) {
        faultKind = f.kind; faultPlace = f.place;
        return CODE - 30 - f.kind;
      }
    }

    int fault(int what) { return what == 0 ? faultKind : what == 1 ? faultPlace : -1; }

    int player(int p, int what) {
      if (!ok(p) || what < 0 || what > 3) return CODE - 2;
      return what == 0 ? now.store[p] : what == 1 ? now.joy[p] : what == 2 ? now.temper[p] : now.barred[p] ? 1 : 0;
    }

    int wants(int b, int k) { return okPiece(b) && k >= 0 && k < now.desk.pieces.get(b).length ? now.desk.pieces.get(b)[k] : CODE - 2; }
    int bars(int b) { return okPiece(b) ? now.desk.pieces.get(b).length : CODE - 2; }

    int[] words(int p, int temper, int b, int k, int draw, int last, int store) {
      return new int[] {p, temper, b, k, now.desk.pieces.get(b)[k], draw, last, store};
    }
    int gladOf(int[] w) { return now.desk.glad == null ? w[4] * w[5] : now.desk.glad.of(w); }
    boolean may(int[] w) { return Math.abs(w[7] - w[5]) <= 20 && (now.desk.may == null || now.desk.may.of(w)); }

    int glad(int p, int b, int k, int draw, int last) {
      if (!ok(p) || wants(b, k) == CODE - 2) return CODE - 2;
      if (Math.abs(draw) > 2 || Math.abs(last) > 2) return CODE - 3;
      return gladOf(words(p, now.temper[p], b, k, draw, last, now.store[p]));
    }

    /** As it comes: draws as far as it goes, then gladness and the store. */
    Row comesBy(int p, int temper, int b, int store) {
      List<Integer> draws = new ArrayList<>();
      int glad = 0, last = 0, s = store;
      for (int k = 0; k < bars(b); k++) {
        Integer d = comingDraw(p, temper, b, k, last, s);
        if (d == null) break;
        glad += gladOf(words(p, temper, b, k, d, last, s));
        draws.add(d); s -= d; last = d;
      }
      return new Row(draws.stream().mapToInt(i -> i).toArray(), glad, s);
    }

    Integer comingDraw(int p, int temper, int b, int k, int last, int s) {
      Integer best = null;
      for (int d = 2; d >= -2; d--) {
        int[] w = words(p, temper, b, k, d, last, s);
        if (may(w) && (best == null || gladOf(w) >= gladOf(words(p, temper, b, k, best, last, s)))) best = d;
      }
      return best;
    }

    int[] comesRow(int p, int b, int temper) { return comesBy(p, temper, b, now.store[p]).draws; }

    /** Every ROW, the first ones first. */
    private final Map<String, List<Row>> known = new HashMap<>();
    private Desk knownDesk = null;

    List<Row> allRows(int p, int temper, int b, int store) {
      if (knownDesk != now.desk) { known.clear(); knownDesk = now.desk; }
      return known.computeIfAbsent(p + " " + temper + " " + b + " " + store, k -> {
        List<Row> out = new ArrayList<>();
        grow(p, temper, b, store, 0, 0, 0, new int[bars(b)], out);
        return out;
      });
    }

    private void grow(int p, int temper, int b, int s, int k, int last, int glad, int[] draws, List<Row> out) {
      if (k == draws.length) { out.add(new Row(draws.clone(), glad, s)); return; }
      for (int d = -2; d <= 2; d++) {
        int[] w = words(p, temper, b, k, d, last, s);
        if (may(w)) { draws[k] = d; grow(p, temper, b, s - d, k + 1, d, glad + gladOf(w), draws, out); }
      }
    }

    List<Row> rowsOf(int p, int b) { return allRows(p, now.temper[p], b, now.store[p]); }

    static Row bestOf(List<Row> rows, int goal) {
      Row best = null;
      for (Row r : rows) if (r.end >= goal && (best == null || r.gladness > best.gladness)) best = r;
      return best;
    }

    // deeds, each a why
    int doPlay(Now n, int p, int b, boolean best) {
      if (!ok(p) || !okPiece(b)) return 1;
      if (n.barred[p]) return 2;
      Row r = best ? bestOf(allRows(p, n.temper[p], b, n.store[p]), -20) : comesBy(p, n.temper[p], b, n.store[p]);
      if (r == null) return 3;
      n.store[p] = r.end;
      n.joy[p] = Math.max(-9999999, Math.min(9999999, n.joy[p] + r.gladness));
      gladness = r.gladness;
      return 0;
    }

    int doLend(Now n, int p, int q, int ticks) {
      if (!ok(p) || !ok(q) || p == q || ticks < 1 || ticks > 40) return 1;
      if (n.store[p] - ticks < -20 || n.store[q] + ticks > 20) return 3;
      n.store[p] -= ticks; n.store[q] += ticks;
      return 0;
    }

    int doTemper(Now n, int p, int t) {
      if (!ok(p) || t < 0 || t > 9) return 1;
      n.temper[p] = t;
      return 0;
    }

    int doFriday(Now n) {
      for (int i = 0; i < 5; i++) n.barred[i] = n.store[i] < 0;
      n.week++;
      return 0;
    }

    int doDeed(Now n, long v) {
      if (v == -1) return doFriday(n);
      if (v >= 0 && v <= 99) return doPlay(n, (int) v / 10, (int) v % 10, false);
      if (v >= 100 && v <= 199) return doPlay(n, (int) (v - 100) / 10, (int) v % 10, true);
      if (v >= 1000 && v <= 9999) return doLend(n, (int) (v - 1000) / 1000, (int) (v / 100) % 10, (int) v % 100);
      return 1;
    }

    void did(Now before) { undo.push(before); if (undo.size() > 10) undo.removeLast(); }

    int answer(int why, Now before, int answer) {
      if (why != 0) return CODE - 10 - why;
      did(before);
      return answer;
    }

    int play(int p, int b) { Now k = now.copy(); int why = doPlay(now, p, b, false); return answer(why, k, gladness); }
    int perform(int p, int b) { Now k = now.copy(); int why = doPlay(now, p, b, true); return answer(why, k, gladness); }
    int lend(int p, int q, int t) { Now k = now.copy(); int why = doLend(now, p, q, t); return answer(why, k, why == 0 ? now.store[p] : 0); }
    int temper(int p, int t) { Now k = now.copy(); int why = doTemper(now, p, t); return answer(why, k, why == 0 ? k.temper[p] : 0); }
    int friday() { did(now.copy()); doFriday(now); return now.bits(); }

    int undo(int n) {
      if (n < 1 || n > 10 || n > undo.size()) return CODE - 3;
      for (int i = 0; i < n; i++) now = undo.pop();
      return undo.size();
    }

    int judge(int t, int what) {
      if (t < 0 || t > 3 || what < 0 || what > 3) return CODE - 2;
      if (trays[t] == null) return CODE - 6;
      Now n = now.copy();
      int place = -1, why = 0;
      for (int i = 0; i < trays[t].length; i++) {
        why = doDeed(n, trays[t][i]);
        if (why != 0) { place = i; break; }
      }
      return what == 0 ? place : what == 1 ? why : what == 2 ? n.stores() : n.joys();
    }

    int does(int t) {
      if (t < 0 || t > 3) return CODE - 2;
      if (trays[t] == null) return CODE - 6;
      Now k = now.copy();
      int done = 0;
      for (long v : trays[t]) { if (doDeed(now, v) != 0) break; done++; }
      if (done > 0) did(k);
      return done;
    }

    int term(int seed, int times) {
      if (times < 1 || times > 40) return CODE - 3;
      Now k = now.copy();
      BigInteger[] x = {BigInteger.valueOf(seed)};
      int done = 0;
      for (int i = 0; i < times; i++) {
        int why;
        switch (pull(x, 5)) {
          case 0: why = doFriday(now); break;
          case 1: { int p = pull(x, 5); why = doPlay(now, p, pull(x, 5), false); break; }
          case 2: { int p = pull(x, 5); why = doPlay(now, p, pull(x, 5), true); break; }
          case 3: { int p = pull(x, 5); int q = pull(x, 5); why = doLend(now, p, q, 1 + pull(x, 9)); break; }
          default: { int p = pull(x, 5); why = doTemper(now, p, pull(x, 10)); break; }
        }
        if (why == 0) done++;
      }
      if (done > 0) did(k);
      return done;
    }

    static int pull(BigInteger[] x, int modulo) {
      BigInteger all = BigInteger.ONE.shiftLeft(32);
      x[0] = x[0].multiply(BigInteger.valueOf(1103515245)).add(BigInteger.valueOf(12345)).mod(all);
      return x[0].shiftRight(16).intValue() % modulo;
    }

    int comes(int p, int b, int what) {
      if (!ok(p) || !okPiece(b) || !(what >= 0 && what <= 2 || what >= 10 && what <= 21)) return CODE - 2;
      Row r = comesBy(p, now.temper[p], b, now.store[p]);
      if (what == 0) return r.gladness;
      if (what == 1) return r.end;
      if (what == 2) return r.draws.length < bars(b) ? r.draws.length : -1;
      return what - 10 < r.draws.length ? r.draws[what - 10] : 9;
    }

    int told(Row r, int what) {
      if (r == null) return CODE - 1;
      return what == 0 ? r.gladness : what == 1 ? r.end : what - 10 < r.draws.length ? r.draws[what - 10] : 9;
    }

    static boolean okWhat(int what) { return what == 0 || what == 1 || what >= 10 && what <= 21; }

    int best(int p, int b, int goal, int what) {
      if (!ok(p) || !okPiece(b) || !okWhat(what)) return CODE - 2;
      if (!okGoal(goal)) return CODE - 3;
      return told(bestOf(rowsOf(p, b), goal), what);
    }

    long rows(int p, int b, int end) {
      if (!ok(p) || !okPiece(b)) return CODE - 2;
      if (!okGoal(end)) return CODE - 3;
      return rowsOf(p, b).stream().filter(r -> r.end == end).count();
    }

    int thriftiest(int p, int b) {
      if (!ok(p) || !okPiece(b)) return CODE - 2;
      return rowsOf(p, b).stream().mapToInt(r -> r.end).max().orElse(CODE - 1);
    }

    int least(int p, int b, int goal, int glad) {
      if (!ok(p) || !okPiece(b)) return CODE - 2;
      if (!okGoal(goal)) return CODE - 3;
      for (int s = -20; s <= 20; s++) {
        for (Row r : allRows(p, now.temper[p], b, s)) if (r.end >= goal && r.gladness >= glad) return s;
      }
      return CODE - 1;
    }

    int squarest(int p, int b) {
      if (!ok(p) || !okPiece(b)) return CODE - 2;
      int found = CODE - 1, most = 0;
      for (int goal = -20; goal <= 20; goal++) {
        Row r = bestOf(rowsOf(p, b), goal);
        if (r != null && (found == CODE - 1 || r.gladness + 3 * goal > most)) { found = goal; most = r.gladness + 3 * goal; }
      }
      return found;
    }

    /** Greatest gladness of a told order, by the store behind it. */
    Map<Integer, Integer> playAll(int p, List<Integer> order) {
      Map<Integer, Integer> at = new LinkedHashMap<>();
      at.put(now.store[p], 0);
      for (int b : order) {
        Map<Integer, Integer> then = new LinkedHashMap<>();
        at.forEach((s, g) -> allRows(p, now.temper[p], b, s).forEach(r -> then.merge(r.end, g + r.gladness, Math::max)));
        at = then;
      }
      return at;
    }

    static void perms(List<Integer> head, int rest, List<List<Integer>> out) {
      if (rest == 0) out.add(new ArrayList<>(head));
      for (int b = 0; b < 4; b++) if ((rest >> b & 1) != 0) {
        head.add(b); perms(head, rest & ~(1 << b), out); head.remove(head.size() - 1);
      }
    }

    int order(int p, int set, int goal, int what) {
      if (!ok(p) || what != 0 && (what < 10 || what > 13)) return CODE - 2;
      if (set <= 0 || set >> now.desk.pieces.size() != 0 || !okGoal(goal)) return CODE - 3;
      List<List<Integer>> all = new ArrayList<>();
      perms(new ArrayList<>(), set, all);
      Integer most = null;
      List<Integer> found = null;
      for (List<Integer> o : all) for (Map.Entry<Integer, Integer> e : playAll(p, o).entrySet()) {
        if (e.getKey() >= goal && (most == null || e.getValue() > most)) { most = e.getValue(); found = o; }
      }
      if (most == null) return CODE - 1;
      return what == 0 ? most : what - 10 < found.size() ? found.get(what - 10) : -1;
    }

    int mostPieces(int p, int goal) {
      if (!ok(p)) return CODE - 2;
      if (!okGoal(goal)) return CODE - 3;
      for (int size = 4; size > 0; size--) for (int set = 1; set < 1 << now.desk.pieces.size(); set++) {
        if (Integer.bitCount(set) == size && order(p, set, goal, 0) != CODE - 1) return set;
      }
      return 0;
    }

    int gladdest(int b) {
      if (!okPiece(b)) return CODE - 2;
      int found = -1, most = 0;
      for (int p = 0; ok(p); p++) {
        Row r = bestOf(rowsOf(p, b), 0);
        if (r != null && (found < 0 || r.gladness > most)) { found = p; most = r.gladness; }
      }
      return found;
    }

    int lends(int p, int b, int q, int c) {
      if (!ok(p) || !ok(q) || p == q || !okPiece(b) || !okPiece(c)) return CODE - 2;
      int found = -1, most = 0;
      for (int t = 0; t <= 40; t++) {
        Now n = now.copy();
        if (t > 0 && doLend(n, p, q, t) != 0) continue;
        Row r = bestOf(allRows(p, n.temper[p], b, n.store[p]), 0), s = bestOf(allRows(q, n.temper[q], c, n.store[q]), 0);
        if (r != null && s != null && (found < 0 || r.gladness + s.gladness > most)) { found = t; most = r.gladness + s.gladness; }
      }
      return found;
    }

    int reply(int p, int q, int b, int what) {
      if (!ok(p) || !ok(q) || p == q || !okPiece(b) || !okWhat(what)) return CODE - 2;
      Row first = bestOf(rowsOf(p, b), 0);
      if (first == null) return CODE - 1;
      List<Row> near = new ArrayList<>();
      for (Row r : rowsOf(q, b)) {
        boolean is = true;
        for (int k = 0; k < r.draws.length; k++) is &= Math.abs(r.draws[k] - first.draws[k]) <= 1;
        if (is) near.add(r);
      }
      return told(bestOf(near, 0), what);
    }

    int refuse(int t, int p, int b) {
      if (t < 0 || t > 3 || !ok(p) || !okPiece(b)) return CODE - 2;
      if (trays[t] == null) return CODE - 6;
      if (trays[t].length != bars(b)) return CODE - 4;
      for (long v : trays[t]) if (!(v >= -2 && v <= 2 || v == 9)) return CODE - 3;
      return 0;
    }

    boolean fits(int t, int[] draws) {
      for (int k = 0; k < draws.length; k++) if (trays[t][k] != 9 && trays[t][k] != draws[k]) return false;
      return true;
    }

    List<Row> heardRows(int t, int p, int b, int end) {
      return rowsOf(p, b).stream().filter(r -> fits(t, r.draws) && (end == 99 || r.end == end)).toList();
    }

    long heard(int t, int p, int b, int end) {
      int c = refuse(t, p, b);
      if (c != 0) return c;
      if (!okGoal(end) && end != 99) return CODE - 3;
      return heardRows(t, p, b, end).size();
    }

    int sure(int t, int p, int b, int end, int k) {
      int c = refuse(t, p, b);
      if (c != 0) return c;
      if (!okGoal(end) && end != 99) return CODE - 3;
      if (k < 0 || k >= bars(b)) return CODE - 7;
      int[] some = heardRows(t, p, b, end).stream().mapToInt(r -> r.draws[k]).distinct().toArray();
      return some.length == 1 ? some[0] : 9;
    }

    int tempers(int t, int p, int b) {
      int c = refuse(t, p, b);
      if (c != 0) return c;
      int set = 0;
      for (int m = 0; m < 10; m++) {
        int[] d = comesRow(p, b, m);
        if (d.length == bars(b) && fits(t, d)) set |= 1 << m;
      }
      return set;
    }

    int next(int t, int p, int b) {
      int set = tempers(t, p, b);
      if (set < 0) return set;
      if (set == 0) return -1;
      int found = -1, least = 99;
      for (int o = 0; okPiece(o); o++) {
        if (o == b) continue;
        Map<Integer, Integer> groups = new HashMap<>();
        for (int m = 0; m < 10; m++) if ((set >> m & 1) != 0) groups.merge(comesBy(p, m, o, now.store[p]).end, 1, Integer::sum);
        int most = java.util.Collections.max(groups.values());
        if (most < least) { least = most; found = o; }
      }
      return found;
    }

    /** In how many of 10 to the BARS it goes to the end well, tried one by one. */
    long well(int p, int b, int k, int last, int s, int goal) {
      if (k == bars(b)) return s >= goal ? 1 : 0;
      Integer d = comingDraw(p, now.temper[p], b, k, last, s);
      if (d == null) return 0;
      int slip = d < 2 && may(words(p, now.temper[p], b, k, d + 1, last, s)) ? d + 1 : d;
      return (10 - now.desk.slips) * well(p, b, k + 1, d, s - d, goal) + now.desk.slips * well(p, b, k + 1, slip, s - slip, goal);
    }

    long chance(int p, int b, int goal, int what) {
      if (!ok(p) || !okPiece(b) || what < 0 || what > 1) return CODE - 2;
      if (!okGoal(goal)) return CODE - 3;
      BigInteger above = BigInteger.valueOf(well(p, b, 0, 0, now.store[p], goal)), below = BigInteger.TEN.pow(bars(b));
      BigInteger g = above.gcd(below);
      return (what == 0 ? above : below).divide(g).longValue();
    }

    int putBy(int p, int b, int m) {
      if (!ok(p) || !okPiece(b)) return CODE - 2;
      if (m < 0 || m > 100) return CODE - 3;
      for (int s = -20; s <= 20; s++) {
        BigInteger above = BigInteger.valueOf(well(p, b, 0, 0, s, 0)).multiply(BigInteger.valueOf(100));
        if (above.compareTo(BigInteger.TEN.pow(bars(b)).multiply(BigInteger.valueOf(m))) >= 0) return s;
      }
      return CODE - 1;
    }

    int numbers(int t, int sort, int n) {
      if (t < 0 || t > 3 || sort < 0 || sort > 3) return CODE - 2;
      if (n < 0 || n > 40) return CODE - 3;
      trays[t] = new long[n]; sorts[t] = sort;
      return 0;
    }

    long cut(int t, long v) {
      int bits = 8 << sorts[t];
      return v << (64 - bits) >> (64 - bits);
    }

    long write(int t, int i, long v) {
      if (t < 0 || t > 3) return CODE - 2;
      if (trays[t] == null) return CODE - 6;
      if (i < 0 || i >= trays[t].length) return CODE - 7;
      return trays[t][i] = cut(t, v);
    }

    int lists(int t, int p, int b, int goal) {
      if (t < 0 || t > 3 || !ok(p) || !okPiece(b)) return CODE - 2;
      if (trays[t] == null) return CODE - 6;
      if (!okGoal(goal)) return CODE - 3;
      Row r = bestOf(rowsOf(p, b), goal);
      if (r == null) return CODE - 5;
      int n = Math.min(r.draws.length, trays[t].length);
      for (int i = 0; i < n; i++) trays[t][i] = r.draws[i];
      return n;
    }

    int image(int i) {
      if (i < 0 || i > 1) return CODE - 2;
      images[i] = now.copy();
      return 0;
    }

    int restore(int i) {
      if (i < 0 || i > 1) return CODE - 2;
      if (images[i] == null) return CODE - 5;
      now = images[i].copy();
      undo.clear();
      return 0;
    }

    int count(int what) {
      switch (what) {
        case 0: return now.desk.pieces.size();
        case 1: return now.desk.players.size();
        case 2: return now.desk.pieces.stream().mapToInt(b -> b.length).sum();
        case 3: return now.stores();
        case 4: return now.joys();
        case 5: return now.bits();
        case 6: return now.week;
        case 7: return now.desk.slips;
        case 8: return undo.size();
        case 9: return tape.length();
        case 10: return now.desk.lines;
        default: return -1;
      }
    }
  }
}
