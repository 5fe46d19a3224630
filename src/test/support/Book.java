import java.lang.reflect.InvocationTargetException;
import java.lang.reflect.Method;
import java.util.Arrays;
import java.util.Comparator;
import java.util.function.Supplier;

/** What the boundary tests share: the codes, desks by their texts, answers that are due, and a full look at an object. */
public final class Book {
  static final int NONE = -1;
  static final long NO_ROW = -99000001, NO_SUCH = -99000002, BAD = -99000003, TOO_MANY = -99000004, NOT_NOW = -99000005,
      MISSING = -99000006, NO_NUMBER = -99000007, WHY1 = -99000011, WHY2 = -99000012, WHY3 = -99000013, FAULT = -99000030;
  static final int MIN = Integer.MIN_VALUE, MAX = Integer.MAX_VALUE;

  private static String test = "";
  private static int checked = 0;
  private static int wrong = 0;

  private Book() {
  }

  interface Call {
    long on(RubatoDesk x);
  }

  static void due(String what, long got, long want) {
    checked++;
    if (got != want) {
      wrong++;
      System.out.println(test + ": " + what + " answered " + got + ", due is " + want);
    }
  }

  static void alike(String what, String got, String want) {
    checked++;
    if (!got.equals(want)) {
      wrong++;
      int at = 0;
      while (at < got.length() && at < want.length() && got.charAt(at) == want.charAt(at)) at++;
      System.out.println(test + ": " + what + " is otherwise from sign " + at + " on: " + part(got, at) + ", due is " + part(want, at));
    }
  }

  private static String part(String text, int at) {
    return text.substring(Math.max(0, at - 30), Math.min(text.length(), at + 30)).replace('\n', '/');
  }

  /** Runs every test of a class: its static methods without parameters; their names say what they test. */
  static void run(Class<?> tests) {
    Method[] methods = tests.getDeclaredMethods();
    Arrays.sort(methods, Comparator.comparing(Method::getName));
    int ran = 0;
    for (Method m : methods) {
      if (m.getParameterCount() != 0 || m.isSynthetic() || m.getReturnType() != void.class) continue;
      test = m.getName();
      m.setAccessible(true);
      int ahead = checked;
      try {
        m.invoke(null);
      } catch (InvocationTargetException e) {
        wrong++;
        System.out.println(test + ": threw " + e.getCause());
      } catch (IllegalAccessException e) {
        throw new IllegalStateException(e);
      }
      if (checked == ahead) {
        wrong++;
        System.out.println(test + ": checks nothing");
      }
      ran++;
    }
    test = tests.getSimpleName();
  }

  /** Each of the promises must have a test whose name begins with it. */
  static void needPromises(Class<?> tests, int first, int last) {
    for (int promise = first; promise <= last; promise++) {
      String start = String.format("promise%02d", promise);
      due(start + " has a test", Arrays.stream(tests.getDeclaredMethods()).anyMatch(m -> m.getName().startsWith(start)) ? 1 : 0, 1);
    }
  }

  static void end() {
    System.out.println(checked + " answers checked, " + wrong + " are not as due");
    if (wrong != 0) System.exit(1);
  }

  // ---- desks and trays

  static int feedText(RubatoDesk x, String text) {
    int fed = x.count(9);
    for (int i = 0; i < text.length(); i += 20) {
      int[] w = new int[5];
      for (int k = 0; k < 20; k++) w[k / 4] = w[k / 4] << 8 | (i + k < text.length() ? text.charAt(i + k) & 255 : ' ');
      fed = x.feed(w[0], w[1], w[2], w[3], w[4]);
    }
    return fed;
  }

  static long tell(RubatoDesk x, String text) {
    feedText(x, text);
    return x.desk(text.length());
  }

  static RubatoDesk told(String text) {
    RubatoDesk x = new RubatoDesk();
    long lines = tell(x, text);
    if (lines < 1) due("a desk " + text, lines, 1);
    return x;
  }

  static void fill(RubatoDesk x, int tray, int sort, long... numbers) {
    due("numbers", x.numbers(tray, sort, numbers.length), 0);
    for (int i = 0; i < numbers.length; i++) due("write", x.write(tray, i, numbers[i]), numbers[i]);
  }

  static void right(String text, int lines) {
    RubatoDesk x = new RubatoDesk();
    due("desk of " + text, tell(x, text), lines);
    due("fault(0) of " + text, x.fault(0), 0);
    due("fault(1) of " + text, x.fault(1), NONE);
  }

  static void faulty(String text, int kind, int place) {
    RubatoDesk x = new RubatoDesk();
    due("desk of " + text, tell(x, text), FAULT - kind);
    due("fault(0) of " + text, x.fault(0), kind);
    due("fault(1) of " + text, x.fault(1), place);
  }

  static String times(int n, String part) {
    return part.repeat(n);
  }

  // ---- a full look; nothing is promised of an object behind its 512th call, so each look must do with some 300

  /** How much there is of all, and what a call could bring back by undoing. */
  static String lookNow(RubatoDesk x) {
    StringBuilder b = new StringBuilder();
    for (int what = 0; what <= 10; what++) if (what != 9) say(b, x.count(what));
    int players = x.count(1);
    for (int p = 0; p < players; p++) for (int what = 0; what < 4; what++) say(b, x.player(p, what));
    return b.toString();
  }

  /** All that can be asked without a change. */
  static String look(RubatoDesk x) {
    StringBuilder b = new StringBuilder(lookNow(x));
    int pieces = x.count(0), players = x.count(1);
    for (int piece = 0; piece < pieces; piece++) {
      int bars = x.bars(piece);
      say(b, bars);
      for (int bar = 0; bar < bars; bar++) say(b, x.wants(piece, bar));
      for (int p = 0; p < players; p++) {
        say(b, x.glad(p, piece, 0, 1, 1));
        say(b, x.comes(p, piece, 0));
        say(b, x.best(p, piece, 0, 0));
        say(b, x.chance(p, piece, 0, 0));
      }
      for (int tray = 0; tray < 4; tray++) {
        say(b, x.heard(tray, 0, piece, 99));
        say(b, x.tempers(tray, 0, piece));
      }
    }
    for (int tray = 0; tray < 4; tray++) for (int what = 0; what < 4; what++) say(b, x.judge(tray, what));
    return b.toString();
  }

  private static void say(StringBuilder b, long n) {
    b.append(n).append(' ');
  }

  /** All that objects made alike hold, their tape, fault, history, images and trays, too: each is asked for one thing. */
  static String lookThrough(Supplier<RubatoDesk> made) {
    StringBuilder b = new StringBuilder(look(made.get()));
    RubatoDesk x = made.get();
    b.append("\nfault ").append(x.fault(0)).append(' ').append(x.fault(1)).append(" tape ").append(x.count(9));
    for (int i = 0; i < 11; i++) b.append("\nundo ").append(x.undo(1)).append(' ').append(lookNow(x));
    for (int tray = 0; tray < 4; tray++) {
      x = made.get();
      b.append("\ndoes ").append(x.does(tray)).append(' ').append(lookNow(x));
    }
    for (int i = 0; i < 2; i++) {
      x = made.get();
      b.append("\nrestore ").append(x.restore(i)).append(' ').append(look(x));
    }
    x = made.get();
    b.append("\ndesk ").append(x.desk(x.count(9))).append(' ').append(look(x));
    x = made.get();
    for (int tray = 0; tray < 4; tray++) {
      int size = 0;
      while (x.write(tray, size, 1) == 1) size++;
      b.append("\ntray ").append(size).append(' ').append(x.write(tray, 0, 0x7fffff7fff7fL));
    }
    return b.toString();
  }

  /** A refused call answers its code and changes nothing: the object is as a twin without the call. */
  static void refused(Supplier<RubatoDesk> made, String call, long code, Call refused) {
    due(call, refused.on(made.get()), code);
    Supplier<RubatoDesk> behind = () -> {
      RubatoDesk x = made.get();
      refused.on(x);
      return x;
    };
    alike("behind " + call + " the object", lookThrough(behind), lookThrough(made));
  }

  /**
   * Pieces of three, two, no bars and one with a bar that may not be; player 0 has 3, 1 owes 1 and is barred, 2 has
   * 17. Four calls can be undone; image 0 is made; tray 0 has deeds, 1 three numbers heard, 2 none, 3 is missing; a
   * fault was read; the tape has 40 bytes.
   */
  static RubatoDesk rich() {
    RubatoDesk x = told("desk;piece up 3 down 1 up 2;piece down 2 down 2;piece;piece up 1;player has 2 temper 1;"
        + "player owes 1;player has 20 temper 4;slips 2;may : not piece = 3;");
    x.play(0, 0);
    x.image(0);
    x.lend(2, 0, 3);
    x.friday();
    x.temper(1, 7);
    fill(x, 0, 2, 0, 3105, -1, 101, 3, 0);
    fill(x, 1, 0, 2, 9, 9);
    fill(x, 2, 1);
    tell(x, "desk;slips 11;");
    feedText(x, "desk;piece up 4;player has 3;");
    return x;
  }
}
