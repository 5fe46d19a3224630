/**
 * "Refused calls change nothing and answer by a code. (Of several that which the call tells first; all these codes ahead
 * of NONE, NO ROW.)" Each refused call of each promise: its code, which code comes first, and that nothing changes.
 */
public final class RefusedBoundaryTests {
  private static final long NO_ROW = Book.NO_ROW, NO_SUCH = Book.NO_SUCH, BAD = Book.BAD, TOO_MANY = Book.TOO_MANY, NOT_NOW = Book.NOT_NOW,
      MISSING = Book.MISSING, NO_NUMBER = Book.NO_NUMBER, WHY1 = Book.WHY1, WHY2 = Book.WHY2, WHY3 = Book.WHY3;
  private static final int MIN = Book.MIN, MAX = Book.MAX, NONE = Book.NONE;
  /** The first values on both sides that are no such PLAYER, PIECE, TRAY; all of them far out, too. */
  private static final int[] NO_PLAYERS = {-1, 3, 5, MIN, MAX}, NO_PIECES = {-1, 4, MIN, MAX}, NO_TRAYS = {-1, 4, MIN, MAX};
  private static final int[] NO_STORES = {-21, 21, MIN, MAX};
  private static final int[] NOT_OF_ROW = {-1, 2, 9, 22, MIN, MAX};

  public static void main(String[] args) {
    Book.run(RefusedBoundaryTests.class);
    Book.needPromises(RefusedBoundaryTests.class, 1, 40);
    Book.end();
  }

  private static void refused(String call, long code, Book.Call c) {
    Book.refused(Book::rich, call, code, c);
  }

  /** Without a desk there is nobody and nothing: what names one is refused. */
  private static void refusedNew(String call, long code, Book.Call c) {
    Book.refused(RubatoDesk::new, call, code, c);
  }

  private static void answers(String call, long due, Book.Call c) {
    Book.due(call, c.on(Book.rich()), due);
  }

  static void promise01NewObjectHasNoneOfAll() {
    refusedNew("player", NO_SUCH, x -> x.player(0, 0));
    refusedNew("wants", NO_SUCH, x -> x.wants(0, 0));
    refusedNew("bars", NO_SUCH, x -> x.bars(0));
    refusedNew("glad", NO_SUCH, x -> x.glad(0, 0, 0, 0, 0));
    refusedNew("play", WHY1, x -> x.play(0, 0));
    refusedNew("perform", WHY1, x -> x.perform(0, 0));
    refusedNew("lend", WHY1, x -> x.lend(0, 1, 1));
    refusedNew("temper", WHY1, x -> x.temper(0, 0));
    refusedNew("undo", BAD, x -> x.undo(1));
    refusedNew("judge", MISSING, x -> x.judge(0, 0));
    refusedNew("does", MISSING, x -> x.does(3));
    refusedNew("comes", NO_SUCH, x -> x.comes(0, 0, 0));
    refusedNew("best", NO_SUCH, x -> x.best(0, 0, 0, 0));
    refusedNew("rows", NO_SUCH, x -> x.rows(0, 0, 0));
    refusedNew("thriftiest", NO_SUCH, x -> x.thriftiest(0, 0));
    refusedNew("least", NO_SUCH, x -> x.least(0, 0, 0, 0));
    refusedNew("squarest", NO_SUCH, x -> x.squarest(0, 0));
    refusedNew("order", NO_SUCH, x -> x.order(0, 1, 0, 0));
    refusedNew("mostPieces", NO_SUCH, x -> x.mostPieces(0, 0));
    refusedNew("gladdest", NO_SUCH, x -> x.gladdest(0));
    refusedNew("lends", NO_SUCH, x -> x.lends(0, 0, 1, 0));
    refusedNew("reply", NO_SUCH, x -> x.reply(0, 1, 0, 0));
    refusedNew("heard", NO_SUCH, x -> x.heard(0, 0, 0, 0));
    refusedNew("sure", NO_SUCH, x -> x.sure(0, 0, 0, 0, 0));
    refusedNew("tempers", NO_SUCH, x -> x.tempers(0, 0, 0));
    refusedNew("next", NO_SUCH, x -> x.next(0, 0, 0));
    refusedNew("chance", NO_SUCH, x -> x.chance(0, 0, 0, 0));
    refusedNew("putBy", NO_SUCH, x -> x.putBy(0, 0, 0));
    refusedNew("write", MISSING, x -> x.write(0, 0, 1));
    refusedNew("lists", NO_SUCH, x -> x.lists(0, 0, 0, 0));
    refusedNew("restore 0", NOT_NOW, x -> x.restore(0));
    refusedNew("restore 1", NOT_NOW, x -> x.restore(1));
  }

  private static RubatoDesk fullTape() {
    RubatoDesk x = Book.rich();
    String rest = "player;";
    while (x.count(9) < 900) Book.feedText(x, String.format("%-20s", rest));
    return x;
  }

  static void promise02FeedOfAFullTape() {
    Book.refused(RefusedBoundaryTests::fullTape, "feed of a full tape", NOT_NOW, x -> x.feed(0x21212121, MIN, MAX, -1, 0));
    Book.refused(RefusedBoundaryTests::fullTape, "feed of nothing but 0", NOT_NOW, x -> x.feed(0, 0, 0, 0, 0));
  }

  static void promise03DeskOfNoSuchLength() {
    for (int n : new int[] {-1, 41, 900, 901, MIN, MAX}) refused("desk(" + n + ")", BAD, x -> x.desk(n));
    refusedNew("desk(1) of nothing", BAD, x -> x.desk(1));
    for (int n : new int[] {-1, 901}) Book.refused(RefusedBoundaryTests::fullTape, "desk(" + n + ")", BAD, x -> x.desk(n));
  }

  static void promise04FaultOfOthers() {
    for (int what : new int[] {-1, 2, MIN, MAX}) refused("fault(" + what + ")", NONE, x -> x.fault(what));
  }

  static void promise05Player() {
    for (int p : NO_PLAYERS) for (int what : new int[] {0, 3, 4}) refused("player(" + p + ", " + what + ")", NO_SUCH, x -> x.player(p, what));
    for (int what : new int[] {-1, 4, MIN, MAX}) for (int p = 0; p < 3; p++) {
      int player = p;
      refused("player(" + p + ", " + what + ")", NO_SUCH, x -> x.player(player, what));
    }
  }

  static void promise06Wants() {
    for (int piece : NO_PIECES) refused("wants(" + piece + ", 0)", NO_SUCH, x -> x.wants(piece, 0));
    for (int bar : new int[] {-1, 3, 12, MIN, MAX}) refused("wants(0, " + bar + ")", NO_SUCH, x -> x.wants(0, bar));
    refused("wants(1, 2)", NO_SUCH, x -> x.wants(1, 2));
    refused("wants(2, 0), it has no bars", NO_SUCH, x -> x.wants(2, 0));
  }

  static void promise07Bars() {
    for (int piece : NO_PIECES) refused("bars(" + piece + ")", NO_SUCH, x -> x.bars(piece));
  }

  static void promise08Glad() {
    for (int p : NO_PLAYERS) refused("glad of player " + p, NO_SUCH, x -> x.glad(p, 0, 0, 0, 0));
    for (int piece : NO_PIECES) refused("glad of piece " + piece, NO_SUCH, x -> x.glad(0, piece, 0, 0, 0));
    for (int bar : new int[] {-1, 3, 12, MIN, MAX}) refused("glad of bar " + bar, NO_SUCH, x -> x.glad(0, 0, bar, 0, 0));
    refused("glad of a piece without bars", NO_SUCH, x -> x.glad(0, 2, 0, 0, 0));
    for (int draw : new int[] {-3, 3, 9, MIN, MAX}) {
      refused("glad drawn " + draw, BAD, x -> x.glad(0, 0, 0, draw, 0));
      refused("glad behind " + draw, BAD, x -> x.glad(0, 0, 0, 0, draw));
      refused("no player first, then the draw", NO_SUCH, x -> x.glad(3, 0, 0, draw, draw));
      refused("no piece first, then the draw", NO_SUCH, x -> x.glad(0, 4, 0, draw, draw));
      refused("no bar first, then the draw", NO_SUCH, x -> x.glad(0, 0, 3, draw, draw));
    }
  }

  static void promise09Play() {
    for (int p : NO_PLAYERS) refused("play of player " + p, WHY1, x -> x.play(p, 0));
    for (int piece : NO_PIECES) refused("play of piece " + piece, WHY1, x -> x.play(0, piece));
    refused("who is barred", WHY2, x -> x.play(1, 0));
    refused("who is barred, a piece without bars", WHY2, x -> x.play(1, 2));
    for (int piece : NO_PIECES) refused("no piece " + piece + " ahead of barred", WHY1, x -> x.play(1, piece));
    answers("a piece that breaks off at once is played", 0, x -> x.play(0, 3));
  }

  static void promise10Perform() {
    for (int p : NO_PLAYERS) refused("perform of player " + p, WHY1, x -> x.perform(p, 0));
    for (int piece : NO_PIECES) refused("perform of piece " + piece, WHY1, x -> x.perform(0, piece));
    refused("who is barred", WHY2, x -> x.perform(1, 0));
    refused("no row", WHY3, x -> x.perform(0, 3));
    refused("barred ahead of no row", WHY2, x -> x.perform(1, 3));
    refused("no piece ahead of barred", WHY1, x -> x.perform(1, 4));
    refused("no player ahead of no row", WHY1, x -> x.perform(3, 3));
  }

  static void promise11Lend() {
    for (int p : NO_PLAYERS) {
      refused("lend by " + p, WHY1, x -> x.lend(p, 0, 1));
      refused("lend to " + p, WHY1, x -> x.lend(0, p, 1));
    }
    for (int ticks : new int[] {0, -1, 41, MIN, MAX}) refused("lend " + ticks, WHY1, x -> x.lend(2, 1, ticks));
    for (int p = 0; p < 3; p++) {
      int player = p;
      refused("both one", WHY1, x -> x.lend(player, player, 1));
      refused("both one, ahead of the store", WHY1, x -> x.lend(player, player, 40));
    }
    answers("0 lends 17, 1 has 16", -14, x -> x.lend(0, 1, 17));
    refused("the other one's store is 20 at most", WHY3, x -> x.lend(0, 2, 4));
    answers("the other one's store is just 20", 0, x -> x.lend(0, 2, 3));
    refused("the own store is -20 at least", WHY3, x -> x.lend(1, 0, 20));
    refused("the own store is -20 at least", WHY3, x -> x.lend(0, 1, 24));
    refused("both out of bounds", WHY3, x -> x.lend(1, 2, 40));
    refused("ticks ahead of the store", WHY1, x -> x.lend(1, 2, 41));
    refused("no player ahead of the store", WHY1, x -> x.lend(1, 3, 40));
    answers("one who is barred may lend", -2, x -> x.lend(1, 0, 1));
  }

  static void promise12Temper() {
    for (int p : NO_PLAYERS) refused("temper of player " + p, WHY1, x -> x.temper(p, 1));
    for (int n : new int[] {-1, 10, MIN, MAX}) refused("temper " + n, WHY1, x -> x.temper(0, n));
    answers("one who is barred may have a temper", 7, x -> x.temper(1, 9));
  }

  static void promise13FridayIsNeverRefused() {
    Book.due("friday of nobody", new RubatoDesk().friday(), 0);
    answers("friday", 2, x -> x.friday());
  }

  static void promise14Undo() {
    for (int n : new int[] {0, -1, 5, 10, 11, MIN, MAX}) refused("undo(" + n + ")", BAD, x -> x.undo(n));
    answers("all that can be", 0, x -> x.undo(4));
  }

  static void promise15Judge() {
    for (int tray : NO_TRAYS) for (int what : new int[] {0, 3}) refused("judge(" + tray + ", " + what + ")", NO_SUCH, x -> x.judge(tray, what));
    for (int what : new int[] {-1, 4, MIN, MAX}) for (int tray = 0; tray < 4; tray++) {
      int t = tray;
      refused("judge(" + tray + ", " + what + "), what ahead of missing", NO_SUCH, x -> x.judge(t, what));
    }
    for (int w = 0; w < 4; w++) {
      int what = w;
      refused("judge(3, " + what + ")", MISSING, x -> x.judge(3, what));
    }
    for (int t = 0; t < 3; t++) for (int w = 0; w < 4; w++) {
      int tray = t, what = w;
      Book.refused(Book::rich, "judged as if done", Book.rich().judge(tray, what), x -> x.judge(tray, what));
    }
  }

  static void promise16Does() {
    for (int tray : NO_TRAYS) refused("does(" + tray + ")", NO_SUCH, x -> x.does(tray));
    refused("does(3)", MISSING, x -> x.does(3));
    refused("does of no numbers", 0, x -> x.does(2));
  }

  static void promise17Term() {
    for (int times : new int[] {0, -1, 41, MIN, MAX}) refused("term of " + times, BAD, x -> x.term(1, times));
  }

  static void promise18Comes() {
    for (int p : NO_PLAYERS) refused("comes of player " + p, NO_SUCH, x -> x.comes(p, 0, 0));
    for (int piece : NO_PIECES) refused("comes of piece " + piece, NO_SUCH, x -> x.comes(0, piece, 0));
    for (int what : new int[] {-1, 3, 9, 22, MIN, MAX}) refused("comes, what " + what, NO_SUCH, x -> x.comes(0, 0, what));
    answers("the least bar", 2, x -> x.comes(0, 0, 10));
    answers("the greatest bar", 9, x -> x.comes(0, 0, 21));
    answers("who is barred may be asked", 8, x -> x.comes(1, 1, 0));
  }

  static void promise19Best() {
    for (int p : NO_PLAYERS) refused("best of player " + p, NO_SUCH, x -> x.best(p, 0, 0, 0));
    for (int piece : NO_PIECES) refused("best of piece " + piece, NO_SUCH, x -> x.best(0, piece, 0, 0));
    for (int what : NOT_OF_ROW) {
      refused("best, what " + what, NO_SUCH, x -> x.best(0, 0, 0, what));
      refused("what ahead of the goal", NO_SUCH, x -> x.best(0, 0, 21, what));
      refused("what ahead of no row", NO_SUCH, x -> x.best(0, 3, 0, what));
    }
    for (int goal : NO_STORES) {
      refused("best, goal " + goal, BAD, x -> x.best(0, 0, goal, 0));
      refused("the goal ahead of no row", BAD, x -> x.best(0, 3, goal, 0));
      refused("no player ahead of the goal", NO_SUCH, x -> x.best(3, 0, goal, 0));
      refused("no piece ahead of the goal", NO_SUCH, x -> x.best(0, 4, goal, 0));
    }
    refused("no row", NO_ROW, x -> x.best(0, 3, -20, 0));
    refused("no row ahead of 9", NO_ROW, x -> x.best(0, 3, -20, 21));
  }

  static void promise20Rows() {
    for (int p : NO_PLAYERS) refused("rows of player " + p, NO_SUCH, x -> x.rows(p, 0, 0));
    for (int piece : NO_PIECES) refused("rows of piece " + piece, NO_SUCH, x -> x.rows(0, piece, 0));
    for (int end : new int[] {-21, 21, 99, MIN, MAX}) {
      refused("rows to " + end, BAD, x -> x.rows(0, 0, end));
      refused("no player ahead of the end", NO_SUCH, x -> x.rows(3, 0, end));
      refused("no piece ahead of the end", NO_SUCH, x -> x.rows(0, 4, end));
    }
    refused("no rows", 0, x -> x.rows(0, 3, 3));
  }

  static void promise21Thriftiest() {
    for (int p : NO_PLAYERS) refused("thriftiest of player " + p, NO_SUCH, x -> x.thriftiest(p, 0));
    for (int piece : NO_PIECES) refused("thriftiest of piece " + piece, NO_SUCH, x -> x.thriftiest(0, piece));
    refused("no player ahead of no row", NO_SUCH, x -> x.thriftiest(3, 3));
    refused("no row", NO_ROW, x -> x.thriftiest(0, 3));
  }

  static void promise22Least() {
    for (int p : NO_PLAYERS) refused("least of player " + p, NO_SUCH, x -> x.least(p, 0, 0, 0));
    for (int piece : NO_PIECES) refused("least of piece " + piece, NO_SUCH, x -> x.least(0, piece, 0, 0));
    for (int goal : NO_STORES) {
      refused("least, goal " + goal, BAD, x -> x.least(0, 0, goal, 0));
      refused("no player ahead of the goal", NO_SUCH, x -> x.least(3, 0, goal, 0));
      refused("no piece ahead of the goal", NO_SUCH, x -> x.least(0, 4, goal, 0));
      refused("the goal ahead of no row", BAD, x -> x.least(0, 3, goal, 0));
    }
    refused("no row", NO_ROW, x -> x.least(0, 3, -20, MIN));
    refused("none is so glad", NO_ROW, x -> x.least(0, 0, -20, MAX));
  }

  static void promise23Squarest() {
    for (int p : NO_PLAYERS) refused("squarest of player " + p, NO_SUCH, x -> x.squarest(p, 0));
    for (int piece : NO_PIECES) refused("squarest of piece " + piece, NO_SUCH, x -> x.squarest(0, piece));
    refused("no player ahead of no row", NO_SUCH, x -> x.squarest(3, 3));
    refused("no row", NO_ROW, x -> x.squarest(0, 3));
  }

  static void promise24Order() {
    for (int p : NO_PLAYERS) {
      refused("order of player " + p, NO_SUCH, x -> x.order(p, 1, 0, 0));
      refused("no player ahead of the set", NO_SUCH, x -> x.order(p, 0, 0, 0));
    }
    for (int what : new int[] {-1, 1, 2, 9, 14, 21, MIN, MAX}) {
      refused("order, what " + what, NO_SUCH, x -> x.order(0, 1, 0, what));
      refused("what ahead of the set", NO_SUCH, x -> x.order(0, 0, 0, what));
      refused("what ahead of the goal", NO_SUCH, x -> x.order(0, 1, 21, what));
      refused("what ahead of no row", NO_SUCH, x -> x.order(0, 8, 0, what));
    }
    for (int set : new int[] {0, 16, 17, 32, 1 << 30, -1, MIN, MAX}) {
      refused("order of the set " + set, BAD, x -> x.order(0, set, 0, 0));
      refused("the set with a bad goal", BAD, x -> x.order(0, set, 21, 0));
    }
    for (int goal : NO_STORES) {
      refused("order, goal " + goal, BAD, x -> x.order(0, 1, goal, 0));
      refused("the goal ahead of no row", BAD, x -> x.order(0, 8, goal, 10));
    }
    refused("no row", NO_ROW, x -> x.order(0, 8, -20, 0));
    refused("no row ahead of NONE", NO_ROW, x -> x.order(0, 8, -20, 13));
    refused("one of them has no row", NO_ROW, x -> x.order(0, 15, -20, 10));
    refused("not so many", NONE, x -> x.order(0, 7, 0, 13));
  }

  static void promise25MostPieces() {
    for (int p : NO_PLAYERS) refused("mostPieces of player " + p, NO_SUCH, x -> x.mostPieces(p, 0));
    for (int goal : NO_STORES) {
      refused("mostPieces, goal " + goal, BAD, x -> x.mostPieces(0, goal));
      refused("no player ahead of the goal", NO_SUCH, x -> x.mostPieces(3, goal));
    }
    refused("none", 0, x -> x.mostPieces(0, 20));
  }

  static void promise26Gladdest() {
    for (int piece : NO_PIECES) refused("gladdest of piece " + piece, NO_SUCH, x -> x.gladdest(piece));
    refused("nobody has one", NONE, x -> x.gladdest(3));
  }

  static void promise27Lends() {
    for (int p : NO_PLAYERS) {
      refused("lends by " + p, NO_SUCH, x -> x.lends(p, 0, 1, 0));
      refused("lends to " + p, NO_SUCH, x -> x.lends(0, 0, p, 0));
    }
    for (int piece : NO_PIECES) {
      refused("lends, piece " + piece, NO_SUCH, x -> x.lends(0, piece, 1, 0));
      refused("lends, other " + piece, NO_SUCH, x -> x.lends(0, 0, 1, piece));
    }
    for (int p = 0; p < 3; p++) {
      int player = p;
      refused("both one", NO_SUCH, x -> x.lends(player, 0, player, 1));
      refused("both one ahead of none", NO_SUCH, x -> x.lends(player, 3, player, 3));
    }
    refused("the first has none", NONE, x -> x.lends(0, 3, 2, 0));
    refused("the second has none", NONE, x -> x.lends(0, 0, 2, 3));
  }

  static void promise28Reply() {
    for (int p : NO_PLAYERS) {
      refused("reply to " + p, NO_SUCH, x -> x.reply(p, 0, 0, 0));
      refused("reply of " + p, NO_SUCH, x -> x.reply(0, p, 0, 0));
    }
    for (int piece : NO_PIECES) refused("reply, piece " + piece, NO_SUCH, x -> x.reply(0, 2, piece, 0));
    for (int what : NOT_OF_ROW) {
      refused("reply, what " + what, NO_SUCH, x -> x.reply(0, 2, 0, what));
      refused("what ahead of no row", NO_SUCH, x -> x.reply(0, 2, 3, what));
    }
    for (int p = 0; p < 3; p++) {
      int player = p;
      refused("both one", NO_SUCH, x -> x.reply(player, player, 0, 0));
      refused("both one ahead of no row", NO_SUCH, x -> x.reply(player, player, 3, 0));
    }
    refused("no row", NO_ROW, x -> x.reply(0, 2, 3, 0));
    refused("no row ahead of 9", NO_ROW, x -> x.reply(0, 2, 3, 21));
    refused("the first one has none", NO_ROW, x -> x.reply(1, 0, 2, 0));
    refused("the second one has none", NO_ROW, x -> x.reply(0, 1, 2, 0));
  }

  /** heard(), sure(), tempers(), next() are refused alike but for the end and the bar. */
  private static void refusedHeard(String call, long code, int tray, int p, int piece) {
    for (int end : new int[] {0, 21}) {
      refused("heard, " + call, code, x -> x.heard(tray, p, piece, end));
      for (int bar : new int[] {0, 12}) refused("sure, " + call, code, x -> x.sure(tray, p, piece, end, bar));
    }
    refused("tempers, " + call, code, x -> x.tempers(tray, p, piece));
    refused("next, " + call, code, x -> x.next(tray, p, piece));
  }

  static void promise29Heard() {
    for (int tray : NO_TRAYS) refusedHeard("tray " + tray, NO_SUCH, tray, 0, 0);
    for (int p : NO_PLAYERS) {
      refusedHeard("player " + p, NO_SUCH, 1, p, 0);
      refusedHeard("player ahead of missing", NO_SUCH, 3, p, 0);
      refusedHeard("player ahead of too many", NO_SUCH, 0, p, 0);
    }
    for (int piece : NO_PIECES) {
      refusedHeard("piece " + piece, NO_SUCH, 1, 0, piece);
      refusedHeard("piece ahead of missing", NO_SUCH, 3, 0, piece);
      refusedHeard("piece ahead of too many", NO_SUCH, 0, 0, piece);
    }
    refusedHeard("missing", MISSING, 3, 0, 0);
    refusedHeard("missing, a piece without bars", MISSING, 3, 0, 2);
    refusedHeard("one number more than bars", TOO_MANY, 1, 0, 1);
    refusedHeard("no numbers", TOO_MANY, 2, 0, 0);
    refusedHeard("numbers, but no bars", TOO_MANY, 1, 0, 2);
    refusedHeard("too many ahead of one that can't be", TOO_MANY, 0, 0, 0);
    for (int end : new int[] {-21, 21, 98, 100, MIN, MAX}) refused("heard to " + end, BAD, x -> x.heard(1, 0, 0, end));
  }

  static void promise30Sure() {
    for (int end : new int[] {-21, 21, 98, 100, MIN, MAX}) {
      refused("sure to " + end, BAD, x -> x.sure(1, 0, 0, end, 0));
      refused("the end ahead of the bar", BAD, x -> x.sure(1, 0, 0, end, 3));
    }
    for (int bar : new int[] {-1, 3, 12, MIN, MAX}) {
      refused("sure of bar " + bar, NO_NUMBER, x -> x.sure(1, 0, 0, 99, bar));
      refused("a bar ahead of no rows", NO_NUMBER, x -> x.sure(1, 0, 0, 20, bar));
    }
    refused("no bars", NO_NUMBER, x -> x.sure(2, 0, 2, 99, 0));
    refused("no rows", 9, x -> x.sure(1, 0, 0, 20, 0));
  }

  /** A number that can't be, at each place, just beyond -2, 2 and 9. */
  private static void numberThatCannotBe(long number, int place) {
    java.util.function.Supplier<RubatoDesk> made = () -> {
      RubatoDesk x = Book.rich();
      Book.fill(x, 1, 3, 0, 9, -2);
      x.write(1, place, number);
      return x;
    };
    Book.refused(made, "heard " + number, BAD, x -> x.heard(1, 0, 0, 99));
    Book.refused(made, "heard " + number + ", the end, too", BAD, x -> x.heard(1, 0, 0, 98));
    Book.refused(made, "sure " + number, BAD, x -> x.sure(1, 0, 0, 99, 0));
    Book.refused(made, "sure " + number + " ahead of the bar", BAD, x -> x.sure(1, 0, 0, 99, 3));
    Book.refused(made, "tempers " + number, BAD, x -> x.tempers(1, 0, 0));
    Book.refused(made, "next " + number, BAD, x -> x.next(1, 0, 0));
    Book.refused(made, "no player ahead of " + number, NO_SUCH, x -> x.heard(1, 3, 0, 99));
    Book.refused(made, "too many ahead of " + number, TOO_MANY, x -> x.heard(1, 0, 1, 99));
  }

  static void promise31TempersOfNumbersThatCannotBe() {
    for (long number : new long[] {-3, 3, 8, 10, -9, 99, Long.MIN_VALUE, Long.MAX_VALUE, 1L << 32, (1L << 32) + 9, 256, -254}) {
      for (int place = 0; place < 3; place++) numberThatCannotBe(number, place);
    }
  }

  static void promise32NextOfNone() {
    java.util.function.Supplier<RubatoDesk> made = () -> {
      RubatoDesk x = Book.rich();
      Book.fill(x, 1, 0, 1, 9, 9);
      return x;
    };
    Book.refused(made, "no tempers", NONE, x -> x.next(1, 0, 0));
    Book.refused(made, "no tempers", 0, x -> x.tempers(1, 0, 0));
  }

  static void promise33Chance() {
    for (int p : NO_PLAYERS) refused("chance of player " + p, NO_SUCH, x -> x.chance(p, 0, 0, 0));
    for (int piece : NO_PIECES) refused("chance of piece " + piece, NO_SUCH, x -> x.chance(0, piece, 0, 0));
    for (int what : new int[] {-1, 2, MIN, MAX}) {
      refused("chance, what " + what, NO_SUCH, x -> x.chance(0, 0, 0, what));
      refused("what ahead of the goal", NO_SUCH, x -> x.chance(0, 0, 21, what));
    }
    for (int goal : NO_STORES) {
      refused("chance, goal " + goal, BAD, x -> x.chance(0, 0, goal, 0));
      refused("no player ahead of the goal", NO_SUCH, x -> x.chance(3, 0, goal, 0));
      refused("no piece ahead of the goal", NO_SUCH, x -> x.chance(0, 4, goal, 0));
    }
  }

  static void promise34PutBy() {
    for (int p : NO_PLAYERS) refused("putBy of player " + p, NO_SUCH, x -> x.putBy(p, 0, 0));
    for (int piece : NO_PIECES) refused("putBy of piece " + piece, NO_SUCH, x -> x.putBy(0, piece, 0));
    for (int m : new int[] {-1, 101, MIN, MAX}) {
      refused("putBy of " + m, BAD, x -> x.putBy(0, 0, m));
      refused("no player ahead of m", NO_SUCH, x -> x.putBy(3, 0, m));
      refused("no piece ahead of m", NO_SUCH, x -> x.putBy(0, 4, m));
      refused("m ahead of no row", BAD, x -> x.putBy(0, 3, m));
    }
    refused("none is", NO_ROW, x -> x.putBy(0, 3, 1));
  }

  static void promise35Numbers() {
    for (int tray : NO_TRAYS) {
      refused("numbers of tray " + tray, NO_SUCH, x -> x.numbers(tray, 0, 1));
      refused("no tray ahead of n", NO_SUCH, x -> x.numbers(tray, 0, 41));
    }
    for (int sort : new int[] {-1, 4, MIN, MAX}) {
      refused("numbers of sort " + sort, NO_SUCH, x -> x.numbers(0, sort, 1));
      refused("no sort ahead of n", NO_SUCH, x -> x.numbers(0, sort, -1));
    }
    for (int n : new int[] {-1, 41, MIN, MAX}) for (int t = 0; t < 4; t++) {
      int tray = t;
      refused("numbers, n " + n + ", and the tray stays", BAD, x -> x.numbers(tray, 3, n));
    }
  }

  static void promise36Write() {
    for (int tray : NO_TRAYS) refused("write to tray " + tray, NO_SUCH, x -> x.write(tray, 0, 1));
    for (int i : new int[] {0, -1, 40}) refused("missing ahead of no such number", MISSING, x -> x.write(3, i, 1));
    for (int i : new int[] {-1, 6, 40, MIN, MAX}) refused("write to number " + i, NO_NUMBER, x -> x.write(0, i, 1));
    for (int i : new int[] {-1, 3}) refused("write to number " + i, NO_NUMBER, x -> x.write(1, i, 1));
    refused("write to a tray of 0 numbers", NO_NUMBER, x -> x.write(2, 0, 1));
  }

  static void promise37Lists() {
    for (int tray : NO_TRAYS) refused("lists to tray " + tray, NO_SUCH, x -> x.lists(tray, 0, 0, 0));
    for (int p : NO_PLAYERS) {
      refused("lists of player " + p, NO_SUCH, x -> x.lists(0, p, 0, 0));
      refused("no player ahead of missing", NO_SUCH, x -> x.lists(3, p, 0, 0));
    }
    for (int piece : NO_PIECES) {
      refused("lists of piece " + piece, NO_SUCH, x -> x.lists(0, 0, piece, 0));
      refused("no piece ahead of missing", NO_SUCH, x -> x.lists(3, 0, piece, 0));
    }
    refused("missing", MISSING, x -> x.lists(3, 0, 0, 0));
    refused("missing ahead of none", MISSING, x -> x.lists(3, 0, 3, 0));
    for (int goal : NO_STORES) {
      refused("lists, goal " + goal, BAD, x -> x.lists(0, 0, 0, goal));
      refused("missing ahead of the goal", MISSING, x -> x.lists(3, 0, 0, goal));
      refused("the goal ahead of none", BAD, x -> x.lists(0, 0, 3, goal));
    }
    refused("there is none", NOT_NOW, x -> x.lists(0, 0, 3, -20));
    refused("there is none, no places", NOT_NOW, x -> x.lists(2, 0, 3, -20));
  }

  static void promise38Image() {
    for (int i : new int[] {-1, 2, MIN, MAX}) refused("image(" + i + ")", NO_SUCH, x -> x.image(i));
  }

  static void promise39Restore() {
    for (int i : new int[] {-1, 2, MIN, MAX}) refused("restore(" + i + ")", NO_SUCH, x -> x.restore(i));
    refused("none was made", NOT_NOW, x -> x.restore(1));
  }

  static void promise40CountOfOthers() {
    for (int what : new int[] {-1, 11, MIN, MAX}) refused("count(" + what + ")", NONE, x -> x.count(what));
  }
}
