/**
 * The boundary cases that the promises name: a test for each sentence, named after its promise. What is refused, its
 * codes and their order stand in RefusedBoundaryTests.
 */
public final class PromiseBoundaryTests {
  private static final int NONE = Book.NONE;
  private static final long NO_ROW = Book.NO_ROW, NO_SUCH = Book.NO_SUCH, BAD = Book.BAD;
  private static final String TWELVE = "piece" + Book.times(12, " up 1") + ";";

  public static void main(String[] args) {
    Book.run(PromiseBoundaryTests.class);
    Book.needPromises(PromiseBoundaryTests.class, 1, 14);
    Book.end();
  }

  private static void due(String what, long got, long want) {
    Book.due(what, got, want);
  }

  /** "No PIECES, no PLAYERS." */
  static void promise01NewObject() {
    RubatoDesk x = new RubatoDesk();
    for (int what = 0; what <= 10; what++) due("count(" + what + ")", x.count(what), 0);
    due("fault", x.fault(0), 0);
    due("its place", x.fault(1), NONE);
    for (int n = -1; n < 5; n++) {
      due("bars", x.bars(n), NO_SUCH);
      due("player", x.player(n, 0), NO_SUCH);
    }
  }

  /** Objects have nothing in common. */
  static void promise01TwoNewObjects() {
    RubatoDesk x = new RubatoDesk(), y = new RubatoDesk();
    Book.tell(x, "desk;piece up 1;player has 4;");
    x.friday();
    x.image(0);
    x.numbers(0, 0, 3);
    x.feed(1, 2, 3, 4, 5);
    Book.alike("the other one", Book.lookThrough(y), Book.lookThrough(new RubatoDesk()));
  }

  /** "Twenty bytes come behind those on THE TAPE .. how many it has. -5: it would have more than 900." */
  static void promise02Feed() {
    RubatoDesk x = new RubatoDesk();
    due("nothing on it", x.count(9), 0);
    for (int i = 1; i <= 45; i++) {
      due("feed", x.feed(0x20202020, 0x20202020, 0x20202020, 0x20202020, 0x20202020), 20 * i);
      due("on the tape", x.count(9), 20 * i);
    }
    for (int i = 0; i < 3; i++) due("a 46th", x.feed(0, 0, 0, 0, 0), Book.NOT_NOW);
    due("on the tape", x.count(9), 900);
    x.desk(0);
    due("it is empty then", x.feed(0, 0, 0, 0, 0), 20);
  }

  /** "the highest of each int first": at each of the twenty places a sign that begins no TOKEN. */
  static void promise02FeedHighestFirst() {
    for (int place = 0; place < 20; place++) {
      for (int sign : new int[] {1, 0x7f, 0x80, 0xff}) {
        int[] w = {0x20202020, 0x20202020, 0x20202020, 0x20202020, 0x20202020};
        int shift = 24 - 8 * (place % 4);
        w[place / 4] = w[place / 4] & ~(255 << shift) | sign << shift;
        RubatoDesk x = new RubatoDesk();
        x.feed(w[0], w[1], w[2], w[3], w[4]);
        due("desk", x.desk(20), Book.FAULT - 1);
        due("its place", x.fault(1), place);
      }
    }
  }

  /** "The first n bytes of THE TAPE (which is empty then) are THE DESK": none, some, all. */
  static void promise03DeskOfTheFirstBytes() {
    String text = "desk;piece;player;slips 3;";
    int[] ends = {5, 11, 18, 26};
    for (int n = 0; n <= 40; n++) {
      RubatoDesk x = new RubatoDesk();
      Book.feedText(x, text);
      int lines = 0;
      for (int i = 0; i < 4; i++) if (n == ends[i] || i == 3 && n > 26) lines = i + 1;
      due("the first " + n, x.desk(n), lines > 0 ? lines : Book.FAULT - 2);
      due("the tape is empty", x.count(9), 0);
      due("nothing more can be read", x.desk(1), BAD);
      due("lines", x.count(10), lines);
      due("slips", x.count(7), lines == 4 ? 3 : 0);
    }
  }

  /** "-3: n is below 0 or above what there is (THE TAPE stays)" */
  static void promise03DeskAndTheTapeStays() {
    RubatoDesk x = new RubatoDesk();
    Book.feedText(x, "desk;piece;");
    for (int n : new int[] {-1, 21, 900, 901, Book.MIN, Book.MAX}) {
      due("desk(" + n + ")", x.desk(n), BAD);
      due("the tape stays", x.count(9), 20);
      due("it was not read", x.fault(1), NONE);
    }
    due("all there is", x.desk(20), 2);
    due("desk(0) of an empty tape is read", x.desk(0), Book.FAULT - 2);
  }

  /** "JOY and WEEK are 0, nobody is BARRED, nothing can be UNDONE" */
  static void promise03DeskBeginsAnew() {
    RubatoDesk x = Book.rich();
    x.desk(0);
    String text = "desk;piece up 3 down 1;player has 1;player owes 1;player;";
    due("desk", Book.tell(x, text), 5);
    for (int what : new int[] {4, 5, 6, 7, 8, 9}) due("count(" + what + ")", x.count(what), 0);
    for (int p = 0; p < 3; p++) {
      due("store", x.player(p, 0), p == 0 ? 1 : p == 1 ? -1 : 0);
      for (int what = 1; what < 4; what++) due("player", x.player(p, what), 0);
    }
    due("undo", x.undo(1), BAD);
    due("the fault is gone", x.fault(0), 0);
    due("the image stays", x.restore(0), 0);
    due("the image stays", x.count(0), 4);
  }

  /** "(desk, too; all stays with a FAULT)" */
  static void promise03DeskWithAFault() {
    for (String text : new String[] {"", "desk", "desk;piece;piece up 1;player has 20;?", "desk;glad:5;may:1=2;slips 10;slips 11;", "desk;player;player;player;player;player;player;"}) {
      RubatoDesk x = Book.rich(), twin = Book.rich();
      x.desk(0);
      twin.desk(0);
      Book.feedText(x, text);
      due("a fault", x.desk(text.length()) <= Book.FAULT - 1 ? 1 : 0, 1);
      due("the tape is empty", x.count(9), 0);
      // the fault itself is the newer one: both read the same text last
      x.desk(0);
      Book.alike("all else behind " + text, Book.lookThrough(x), Book.lookThrough(twin));
    }
    due("how many lines", Book.tell(new RubatoDesk(), "desk;"), 1);
  }

  /** "Of the latest desk() that was read, what 0: its FAULT (0), 1: its place (NONE). NONE for others." */
  static void promise04Fault() {
    RubatoDesk x = new RubatoDesk();
    String[] texts = {"desk;?", "desk;x", "desk;slips 11;", "desk;glad:(((((((1;", "desk;"};
    int[] kinds = {1, 2, 3, 4, 0}, places = {5, 5, 11, 16, NONE};
    for (int i = 0; i < 5; i++) {
      Book.tell(x, texts[i]);
      due("kind", x.fault(0), kinds[i]);
      due("place", x.fault(1), places[i]);
      due("desk(1) was not read", x.desk(1), BAD);
      due("desk(-1) was not read", x.desk(-1), BAD);
      due("kind", x.fault(0), kinds[i]);
      due("place", x.fault(1), places[i]);
      for (int what : new int[] {-1, 2, Book.MIN, Book.MAX}) due("others", x.fault(what), NONE);
    }
    Book.tell(x, "desk;?");
    x.image(0);
    Book.tell(x, "desk;");
    x.restore(0);
    due("a restored desk is not read", x.fault(0), 0);
  }

  /** "Of a PLAYER, what 0: STORE, 1: JOY, 2: temper, 3: 1 if BARRED, else 0." */
  static void promise05Player() {
    RubatoDesk x = Book.told("desk;piece up 9;" + Book.times(3, "player;") + "player has 20 temper 9;player owes 18 temper 8;");
    due("the first", x.player(0, 0), 0);
    x.play(4, 0);
    x.friday();
    long[] four = {-20, 18, 8, 1}, three = {20, 0, 9, 0};
    for (int what = 0; what < 4; what++) {
      due("the last", x.player(4, what), four[what]);
      due("the last but one", x.player(3, what), three[what]);
    }
    due("beyond", x.player(5, 0), NO_SUCH);
    due("beyond", x.player(4, 4), NO_SUCH);
  }

  /** "What a BAR of a PIECE WANTS." */
  static void promise06Wants() {
    RubatoDesk x = Book.told("desk;piece up 9;piece down 9 up 0;piece;piece" + Book.times(11, " up 1") + " down 7;");
    due("the first", x.wants(0, 0), 9);
    due("one beyond, though the next piece has one", x.wants(0, 1), NO_SUCH);
    due("the last of the second", x.wants(1, 1), 0);
    due("none", x.wants(2, 0), NO_SUCH);
    due("the twelfth", x.wants(3, 11), -7);
    due("a thirteenth", x.wants(3, 12), NO_SUCH);
    due("a fifth piece", x.wants(4, 0), NO_SUCH);
    due("one ahead of the first", x.wants(1, -1), NO_SUCH);
  }

  /** "How many BARS a PIECE has." */
  static void promise07Bars() {
    RubatoDesk x = Book.told("desk;piece;" + TWELVE + "piece up 1;piece;");
    long[] bars = {0, 12, 1, 0, NO_SUCH};
    for (int piece = 0; piece < 5; piece++) due("bars", x.bars(piece), bars[piece]);
    due("a desk of fewer", Book.tell(x, "desk;piece up 1;"), 2);
    due("the first", x.bars(0), 1);
    due("gone", x.bars(1), NO_SUCH);
  }

  /** "DRAWN out so (-2 to 2), behind a last one (-2 to 2), with its STORE as now": whether it may be is no matter. */
  static void promise08Glad() {
    RubatoDesk x = Book.told("desk;piece up 1;player has 20;player owes 20;glad:store*100+last*10+draw;may:1=2;");
    for (int draw = -3; draw <= 3; draw++) {
      for (int last = -3; last <= 3; last++) {
        boolean can = Math.abs(draw) < 3 && Math.abs(last) < 3;
        due("glad", x.glad(0, 0, 0, draw, last), can ? 2000 + 10 * last + draw : BAD);
        due("glad", x.glad(1, 0, 0, draw, last), can ? -2000 + 10 * last + draw : BAD);
      }
    }
    x.lend(0, 1, 40);
    due("its store as now", x.glad(0, 0, 0, 0, 0), -2000);
    due("its temper as now", Book.told("desk;piece up 1;player temper 9;glad:temper;").glad(0, 0, 0, 0, 0), 9);
  }

  /** "To PLAY as it comes: its GLADNESS." */
  static void promise09Play() {
    RubatoDesk x = Book.told("desk;piece;" + TWELVE + "player has 4;player has 20;");
    due("no bars", x.play(0, 0), 0);
    due("it did some", x.count(8), 1);
    due("twelve bars", x.play(1, 1), 24);
    due("store", x.player(1, 0), -4);
    due("twelve bars to the bound", x.play(0, 1), 24);
    due("store", x.player(0, 0), -20);
    due("at the bound", x.play(0, 1), 0);
    due("store", x.player(0, 0), -20);
    due("joy", x.player(0, 1), 24);
  }

  /** "To PLAY best: its GLADNESS. -11 to -13." */
  static void promise10Perform() {
    RubatoDesk x = Book.told("desk;piece;" + TWELVE + "player owes 20;player has 20;");
    due("no bars", x.perform(0, 0), 0);
    due("from the bound below", x.perform(0, 1), 0);
    due("store", x.player(0, 0), -20);
    due("from the bound above", x.perform(1, 1), 24);
    due("store", x.player(1, 0), -4);
    due("gladness below 0 is played, too", Book.told("desk;piece up 1;player;glad:0-5;").perform(0, 0), -5);
    x = Book.told("desk;piece up 1;player has 19;may:draw=0-2;");
    due("the only draw is beyond the store", x.perform(0, 0), Book.WHY3);
    x = Book.told("desk;piece up 1;player has 18;may:draw=0-2;");
    due("the only draw is to the bound", x.perform(0, 0), -2);
    due("store", x.player(0, 0), 20);
  }

  /** "To LEND: the own STORE then." */
  static void promise11Lend() {
    RubatoDesk x = Book.told("desk;player has 20;player owes 20;");
    due("all that can be lent", x.lend(0, 1, 40), -20);
    due("and back", x.lend(1, 0, 40), -20);
    due("one", x.lend(0, 1, 1), 19);
    due("store", x.player(1, 0), -19);
    due("39", x.lend(0, 1, 39), -20);
    due("together", x.count(3), 0);
    due("nobody else", x.lend(0, 2, 1), Book.WHY1);
  }

  /** "To have a TEMPER (0 to 9): what it was." */
  static void promise12Temper() {
    RubatoDesk x = Book.told("desk;player temper 9;player;");
    for (int n = -1; n <= 10; n++) {
      long was = x.player(0, 2);
      boolean can = n >= 0 && n <= 9;
      due("temper " + n, x.temper(0, n), can ? was : Book.WHY1);
      due("now", x.player(0, 2), can ? n : was);
    }
    due("the same once more", x.temper(0, 9), 9);
    due("the other one's stays", x.player(1, 2), 0);
  }

  /** "A FRIDAY: who is BARRED then, as bits." */
  static void promise13Friday() {
    for (int set = 0; set < 32; set++) {
      StringBuilder b = new StringBuilder("desk;");
      for (int p = 0; p < 5; p++) b.append((set >> p & 1) != 0 ? "player owes 1;" : "player;");
      RubatoDesk x = Book.told(b.toString());
      due("friday", x.friday(), set);
      due("barred", x.count(5), set);
      due("once more", x.friday(), set);
      due("undo", x.undo(2), 0);
      due("barred", x.count(5), 0);
    }
  }

  /** "n calls (1 to 10) are UNDONE: how many still can be. -3: n, more than can be." */
  static void promise14Undo() {
    for (int n = -1; n <= 12; n++) {
      RubatoDesk x = new RubatoDesk();
      for (int i = 0; i < 15; i++) x.friday();
      due("undo " + n + " of 15", x.undo(n), n < 1 || n > 10 ? BAD : 10 - n);
      due("week", x.count(6), n < 1 || n > 10 ? 15 : 15 - n);
      x = new RubatoDesk();
      for (int i = 0; i < 4; i++) x.friday();
      due("undo " + n + " of 4", x.undo(n), n < 1 || n > 4 ? BAD : 4 - n);
      due("week", x.count(6), n < 1 || n > 4 ? 4 : 4 - n);
      due("nothing to undo", new RubatoDesk().undo(n), BAD);
    }
  }

  /** A call that is undone is gone: it can't be brought back, and the next one takes its place. */
  static void promise14UndoInTurns() {
    RubatoDesk x = Book.told("desk;player;");
    for (int round = 0; round < 15; round++) {
      for (int i = 0; i < 3; i++) x.temper(0, (round + i) % 10);
      due("undo", x.undo(2), Math.min(round + 1, 8));
      due("temper", x.player(0, 2), round % 10);
    }
  }
}
