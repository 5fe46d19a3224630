import java.util.function.Supplier;

/**
 * The boundary cases that the promises name: a test for each sentence, named after its promise. What is refused, its
 * codes and their order stand in RefusedBoundaryTests.
 */
public final class PromiseBoundaryTests {
  private static final int NONE = Book.NONE;
  private static final long NO_ROW = Book.NO_ROW, NO_SUCH = Book.NO_SUCH, BAD = Book.BAD;
  private static final String TWELVE = "piece" + Book.times(12, " up 1") + ";";

  public static void main(String[] args) {
    Book.run(PromiseBoundaryTests.class);
    Book.needPromises(PromiseBoundaryTests.class, 1, 40);
    Book.end();
  }

  private static void due(String what, long got, long want) {
    Book.due(what, got, want);
  }

  /** "No PIECES, no PLAYERS." */
  static void promise01NewObject() {
    RubatoDesk x = new RubatoDesk();
    for (int what = 0; what <= 10; what++) due("count(" + what + ")", x.count(what), 0);
    due("fault", x.fault(0), 0);
    due("its place", x.fault(1), NONE);
    for (int n = -1; n < 5; n++) {
      due("bars", x.bars(n), NO_SUCH);
      due("player", x.player(n, 0), NO_SUCH);
    }
  }

  /** Objects have nothing in common. */
  static void promise01TwoNewObjects() {
    Supplier<RubatoDesk> beside = () -> {
      RubatoDesk x = new RubatoDesk(), y = new RubatoDesk();
      Book.tell(x, "desk;piece up 1;player has 4;");
      x.friday();
      x.image(0);
      x.numbers(0, 0, 3);
      x.feed(1, 2, 3, 4, 5);
      return y;
    };
    Book.alike("the other one", Book.lookThrough(beside), Book.lookThrough(RubatoDesk::new));
  }

  /** "Twenty bytes come behind those on THE TAPE .. how many it has. -5: it would have more than 900." */
  static void promise02Feed() {
    RubatoDesk x = new RubatoDesk();
    due("nothing on it", x.count(9), 0);
    for (int i = 1; i <= 45; i++) {
      due("feed", x.feed(0x20202020, 0x20202020, 0x20202020, 0x20202020, 0x20202020), 20 * i);
      due("on the tape", x.count(9), 20 * i);
    }
    for (int i = 0; i < 3; i++) due("a 46th", x.feed(0, 0, 0, 0, 0), Book.NOT_NOW);
    due("on the tape", x.count(9), 900);
    x.desk(0);
    due("it is empty then", x.feed(0, 0, 0, 0, 0), 20);
  }

  /** "the highest of each int first": at each of the twenty places a sign that begins no TOKEN. */
  static void promise02FeedHighestFirst() {
    for (int place = 0; place < 20; place++) {
      for (int sign : new int[] {1, 0x7f, 0x80, 0xff}) {
        int[] w = {0x20202020, 0x20202020, 0x20202020, 0x20202020, 0x20202020};
        int shift = 24 - 8 * (place % 4);
        w[place / 4] = w[place / 4] & ~(255 << shift) | sign << shift;
        RubatoDesk x = new RubatoDesk();
        x.feed(w[0], w[1], w[2], w[3], w[4]);
        due("desk", x.desk(20), Book.FAULT - 1);
        due("its place", x.fault(1), place);
      }
    }
  }

  /** "The first n bytes of THE TAPE (which is empty then) are THE DESK": none, some, all. */
  static void promise03DeskOfTheFirstBytes() {
    String text = "desk;piece;player;slips 3;";
    int[] ends = {5, 11, 18, 26};
    for (int n = 0; n <= 40; n++) {
      RubatoDesk x = new RubatoDesk();
      Book.feedText(x, text);
      int lines = 0;
      for (int i = 0; i < 4; i++) if (n == ends[i] || i == 3 && n > 26) lines = i + 1;
      due("the first " + n, x.desk(n), lines > 0 ? lines : Book.FAULT - 2);
      due("the tape is empty", x.count(9), 0);
      due("nothing more can be read", x.desk(1), BAD);
      due("lines", x.count(10), lines);
      due("slips", x.count(7), lines == 4 ? 3 : 0);
    }
  }

  /** "-3: n is below 0 or above what there is (THE TAPE stays)" */
  static void promise03DeskAndTheTapeStays() {
    RubatoDesk x = new RubatoDesk();
    Book.feedText(x, "desk;piece;");
    for (int n : new int[] {-1, 21, 900, 901, Book.MIN, Book.MAX}) {
      due("desk(" + n + ")", x.desk(n), BAD);
      due("the tape stays", x.count(9), 20);
      due("it was not read", x.fault(1), NONE);
    }
    due("all there is", x.desk(20), 2);
    due("desk(0) of an empty tape is read", x.desk(0), Book.FAULT - 2);
  }

  /** "JOY and WEEK are 0, nobody is BARRED, nothing can be UNDONE" */
  static void promise03DeskBeginsAnew() {
    RubatoDesk x = Book.rich();
    x.desk(0);
    String text = "desk;piece up 3 down 1;player has 1;player owes 1;player;";
    due("desk", Book.tell(x, text), 5);
    for (int what : new int[] {4, 5, 6, 7, 8, 9}) due("count(" + what + ")", x.count(what), 0);
    for (int p = 0; p < 3; p++) {
      due("store", x.player(p, 0), p == 0 ? 1 : p == 1 ? -1 : 0);
      for (int what = 1; what < 4; what++) due("player", x.player(p, what), 0);
    }
    due("undo", x.undo(1), BAD);
    due("the fault is gone", x.fault(0), 0);
    due("the image stays", x.restore(0), 0);
    due("the image stays", x.count(0), 4);
  }

  /** "The first n bytes .. are THE DESK": whatever desks there were ahead of it, none of their lines is left. */
  static void promise03DeskAgainAndAgain() {
    String full = "desk;piece up 3 down 4 up 5;piece up 2;player has 9 temper 5;player owes 3 temper 1;player;slips 4;glad:draw*temper+last;may:draw>0;";
    String[] plain = {"desk;piece up 1 up 1;player;player;", "desk;", "desk;piece;", "desk;player;", "desk;piece up 1;player has 1;may:1=1;", "desk;piece up 1;player has 1;glad:1;"};
    for (String text : plain) {
      for (int ahead = 0; ahead < 5; ahead++) {
        RubatoDesk x = new RubatoDesk();
        for (int i = 0; i < ahead; i++) due("a full one", Book.tell(x, full), 9);
        Book.tell(x, text);
        Book.alike("behind " + ahead + " full ones " + text, Book.look(x), Book.look(Book.told(text)));
      }
    }
  }

  /** "(desk, too; all stays with a FAULT)" */
  static void promise03DeskWithAFault() {
    for (String text : new String[] {"", "desk", "desk;piece;piece up 1;player has 20;?", "desk;glad:5;may:1=2;slips 10;slips 11;", "desk;player;player;player;player;player;player;"}) {
      // the fault itself is the newer one: both read the same text last
      Supplier<RubatoDesk> ahead = () -> {
        RubatoDesk x = Book.rich();
        x.desk(0);
        return x;
      };
      Supplier<RubatoDesk> behind = () -> {
        RubatoDesk x = ahead.get();
        due("a fault", Book.tell(x, text) <= Book.FAULT - 1 ? 1 : 0, 1);
        due("the tape is empty", x.count(9), 0);
        x.desk(0);
        return x;
      };
      Book.alike("all else behind " + text, Book.lookThrough(behind), Book.lookThrough(ahead));
    }
    due("how many lines", Book.tell(new RubatoDesk(), "desk;"), 1);
  }

  /** "Of the latest desk() that was read, what 0: its FAULT (0), 1: its place (NONE). NONE for others." */
  static void promise04Fault() {
    RubatoDesk x = new RubatoDesk();
    String[] texts = {"desk;?", "desk;x", "desk;slips 11;", "desk;glad:(((((((1;", "desk;"};
    int[] kinds = {1, 2, 3, 4, 0}, places = {5, 5, 11, 16, NONE};
    for (int i = 0; i < 5; i++) {
      Book.tell(x, texts[i]);
      due("kind", x.fault(0), kinds[i]);
      due("place", x.fault(1), places[i]);
      due("desk(1) was not read", x.desk(1), BAD);
      due("desk(-1) was not read", x.desk(-1), BAD);
      due("kind", x.fault(0), kinds[i]);
      due("place", x.fault(1), places[i]);
      for (int what : new int[] {-1, 2, Book.MIN, Book.MAX}) due("others", x.fault(what), NONE);
    }
    Book.tell(x, "desk;?");
    x.image(0);
    Book.tell(x, "desk;");
    x.restore(0);
    due("a restored desk is not read", x.fault(0), 0);
  }

  /** "Of a PLAYER, what 0: STORE, 1: JOY, 2: temper, 3: 1 if BARRED, else 0." */
  static void promise05Player() {
    RubatoDesk x = Book.told("desk;piece up 9;" + Book.times(3, "player;") + "player has 20 temper 9;player owes 18 temper 8;");
    due("the first", x.player(0, 0), 0);
    x.play(4, 0);
    x.friday();
    long[] four = {-20, 18, 8, 1}, three = {20, 0, 9, 0};
    for (int what = 0; what < 4; what++) {
      due("the last", x.player(4, what), four[what]);
      due("the last but one", x.player(3, what), three[what]);
    }
    due("beyond", x.player(5, 0), NO_SUCH);
    due("beyond", x.player(4, 4), NO_SUCH);
  }

  /** "What a BAR of a PIECE WANTS." */
  static void promise06Wants() {
    RubatoDesk x = Book.told("desk;piece up 9;piece down 9 up 0;piece;piece" + Book.times(11, " up 1") + " down 7;");
    due("the first", x.wants(0, 0), 9);
    due("one beyond, though the next piece has one", x.wants(0, 1), NO_SUCH);
    due("the last of the second", x.wants(1, 1), 0);
    due("none", x.wants(2, 0), NO_SUCH);
    due("the twelfth", x.wants(3, 11), -7);
    due("a thirteenth", x.wants(3, 12), NO_SUCH);
    due("a fifth piece", x.wants(4, 0), NO_SUCH);
    due("one ahead of the first", x.wants(1, -1), NO_SUCH);
  }

  /** "How many BARS a PIECE has." */
  static void promise07Bars() {
    RubatoDesk x = Book.told("desk;piece;" + TWELVE + "piece up 1;piece;");
    long[] bars = {0, 12, 1, 0, NO_SUCH};
    for (int piece = 0; piece < 5; piece++) due("bars", x.bars(piece), bars[piece]);
    due("a desk of fewer", Book.tell(x, "desk;piece up 1;"), 2);
    due("the first", x.bars(0), 1);
    due("gone", x.bars(1), NO_SUCH);
  }

  /** "DRAWN out so (-2 to 2), behind a last one (-2 to 2), with its STORE as now": whether it may be is no matter. */
  static void promise08Glad() {
    RubatoDesk x = Book.told("desk;piece up 1;player has 20;player owes 20;glad:store*100+last*10+draw;may:1=2;");
    for (int draw = -3; draw <= 3; draw++) {
      for (int last = -3; last <= 3; last++) {
        boolean can = Math.abs(draw) < 3 && Math.abs(last) < 3;
        due("glad", x.glad(0, 0, 0, draw, last), can ? 2000 + 10 * last + draw : BAD);
        due("glad", x.glad(1, 0, 0, draw, last), can ? -2000 + 10 * last + draw : BAD);
      }
    }
    x.lend(0, 1, 40);
    due("its store as now", x.glad(0, 0, 0, 0, 0), -2000);
    due("its temper as now", Book.told("desk;piece up 1;player temper 9;glad:temper;").glad(0, 0, 0, 0, 0), 9);
  }

  /** "To PLAY as it comes: its GLADNESS." */
  static void promise09Play() {
    RubatoDesk x = Book.told("desk;piece;" + TWELVE + "player has 4;player has 20;");
    due("no bars", x.play(0, 0), 0);
    due("it did some", x.count(8), 1);
    due("twelve bars", x.play(1, 1), 24);
    due("store", x.player(1, 0), -4);
    due("twelve bars to the bound", x.play(0, 1), 24);
    due("store", x.player(0, 0), -20);
    due("at the bound", x.play(0, 1), 0);
    due("store", x.player(0, 0), -20);
    due("joy", x.player(0, 1), 24);
  }

  /** "To PLAY best: its GLADNESS. -11 to -13." */
  static void promise10Perform() {
    RubatoDesk x = Book.told("desk;piece;" + TWELVE + "player owes 20;player has 20;");
    due("no bars", x.perform(0, 0), 0);
    due("from the bound below", x.perform(0, 1), 0);
    due("store", x.player(0, 0), -20);
    due("from the bound above", x.perform(1, 1), 24);
    due("store", x.player(1, 0), -4);
    due("gladness below 0 is played, too", Book.told("desk;piece up 1;player;glad:0-5;").perform(0, 0), -5);
    x = Book.told("desk;piece up 1;player has 19;may:draw=0-2;");
    due("the only draw is beyond the store", x.perform(0, 0), Book.WHY3);
    x = Book.told("desk;piece up 1;player has 18;may:draw=0-2;");
    due("the only draw is to the bound", x.perform(0, 0), -2);
    due("store", x.player(0, 0), 20);
  }

  /** "To LEND: the own STORE then." */
  static void promise11Lend() {
    RubatoDesk x = Book.told("desk;player has 20;player owes 20;");
    due("all that can be lent", x.lend(0, 1, 40), -20);
    due("and back", x.lend(1, 0, 40), -20);
    due("one", x.lend(0, 1, 1), 19);
    due("store", x.player(1, 0), -19);
    due("39", x.lend(0, 1, 39), -20);
    due("together", x.count(3), 0);
    due("nobody else", x.lend(0, 2, 1), Book.WHY1);
  }

  /** "To have a TEMPER (0 to 9): what it was." */
  static void promise12Temper() {
    RubatoDesk x = Book.told("desk;player temper 9;player;");
    for (int n = -1; n <= 10; n++) {
      long was = x.player(0, 2);
      boolean can = n >= 0 && n <= 9;
      due("temper " + n, x.temper(0, n), can ? was : Book.WHY1);
      due("now", x.player(0, 2), can ? n : was);
    }
    due("the same once more", x.temper(0, 9), 9);
    due("the other one's stays", x.player(1, 2), 0);
  }

  /** "A FRIDAY: who is BARRED then, as bits." */
  static void promise13Friday() {
    for (int set = 0; set < 32; set++) {
      StringBuilder b = new StringBuilder("desk;");
      for (int p = 0; p < 5; p++) b.append((set >> p & 1) != 0 ? "player owes 1;" : "player;");
      RubatoDesk x = Book.told(b.toString());
      due("friday", x.friday(), set);
      due("barred", x.count(5), set);
      due("once more", x.friday(), set);
      due("undo", x.undo(2), 0);
      due("barred", x.count(5), 0);
    }
  }

  /** "n calls (1 to 10) are UNDONE: how many still can be. -3: n, more than can be." */
  static void promise14Undo() {
    for (int n = -1; n <= 12; n++) {
      RubatoDesk x = new RubatoDesk();
      for (int i = 0; i < 15; i++) x.friday();
      due("undo " + n + " of 15", x.undo(n), n < 1 || n > 10 ? BAD : 10 - n);
      due("week", x.count(6), n < 1 || n > 10 ? 15 : 15 - n);
      x = new RubatoDesk();
      for (int i = 0; i < 4; i++) x.friday();
      due("undo " + n + " of 4", x.undo(n), n < 1 || n > 4 ? BAD : 4 - n);
      due("week", x.count(6), n < 1 || n > 4 ? 4 : 4 - n);
      due("nothing to undo", new RubatoDesk().undo(n), BAD);
    }
  }

  /** A call that is undone is gone: it can't be brought back, and the next one takes its place. */
  static void promise14UndoInTurns() {
    RubatoDesk x = Book.told("desk;player;");
    for (int round = 0; round < 15; round++) {
      for (int i = 0; i < 3; i++) x.temper(0, (round + i) % 10);
      due("undo", x.undo(2), Math.min(round + 1, 8));
      due("temper", x.player(0, 2), round % 10);
    }
  }

  /** "n calls .. are UNDONE": of each sort of call just that one, whatever was done ahead of it. */
  static void promise14UndoOfEachSort() {
    for (int sort = 0; sort < 7; sort++) {
      RubatoDesk x = Book.told("desk;piece up 1;player has 9 temper 3;player has 9;");
      Book.fill(x, 0, 1, 0, -1, 1105);
      due("ahead of it", x.lend(1, 0, 2), 7);
      due("ahead of it", x.friday(), 0);
      if (sort == 0) x.play(0, 0);
      if (sort == 1) x.perform(0, 0);
      if (sort == 2) x.lend(0, 1, 5);
      if (sort == 3) x.temper(0, 8);
      if (sort == 4) x.friday();
      if (sort == 5) x.does(0);
      if (sort == 6) x.term(1, 40);
      due("one more can be", x.count(8), 3);
      due("undo, sort " + sort, x.undo(1), 2);
      due("the store", x.player(0, 0), 11);
      due("the other one's", x.player(1, 0), 7);
      due("joy", x.count(4), 0);
      due("temper", x.player(0, 2), 3);
      due("week", x.count(6), 1);
    }
  }

  /** "what 0: the first place that can't be (NONE), 1: why (0), 2: all STORES together then, 3: all JOY": nothing told. */
  static void promise15JudgeOfNoDeeds() {
    RubatoDesk x = Book.told("desk;piece up 1;player has 3;player owes 1;");
    Book.fill(x, 0, 0);
    due("place", x.judge(0, 0), NONE);
    due("why", x.judge(0, 1), 0);
    due("stores", x.judge(0, 2), 2);
    due("joy", x.judge(0, 3), 0);
    x.play(0, 0);
    due("stores as now", x.judge(0, 2), 0);
    due("joy as now", x.judge(0, 3), 2);
  }

  /** "the first place that can't be": the first, one amid, the last of 40, none of 40. */
  static void promise15JudgeFirstPlace() {
    String text = "desk;piece up 1;player has 20;player has 3;";
    for (int bad = 0; bad <= 40; bad++) {
      RubatoDesk x = Book.told(text);
      due("numbers", x.numbers(0, 1, 40), 0);
      for (int i = 0; i < 40; i++) x.write(0, i, i == bad || i == bad + 2 ? 500 : i % 2 == 0 ? 1101 : -1);
      int can = bad;
      // each other deed lends a tick to one who has 3: 17 fit, the 18th is at place 34
      int place = Math.min(can, 34);
      due("place", x.judge(0, 0), place);
      due("why", x.judge(0, 1), place == bad ? 1 : 3);
      due("stores", x.judge(0, 2), 23);
      due("nothing is done", x.player(0, 0), 20);
      due("nothing is done", x.count(6), 0);
    }
    RubatoDesk x = Book.told(text);
    due("numbers", x.numbers(0, 0, 40), 0);
    for (int i = 0; i < 40; i++) x.write(0, i, -1);
    due("forty fridays", x.judge(0, 0), NONE);
    due("forty fridays", x.judge(0, 1), 0);
    x.write(0, 39, 99);
    due("the last can't be", x.judge(0, 0), 39);
  }

  /** "all STORES together then, 3: all JOY": what was done ahead of it counts, it and what is behind it don't. */
  static void promise15JudgeThen() {
    RubatoDesk x = Book.told("desk;piece up 1;player has 5;player has 5;");
    Book.fill(x, 0, 1, 0, 500, 10);
    due("stores", x.judge(0, 2), 8);
    due("joy", x.judge(0, 3), 2);
    Book.fill(x, 0, 1, 500, 0, 10);
    due("stores", x.judge(0, 2), 10);
    due("joy", x.judge(0, 3), 0);
    Book.fill(x, 0, 1, 0, 10);
    due("stores", x.judge(0, 2), 6);
    due("joy", x.judge(0, 3), 4);
  }

  /** "They are done, till one can't be: how many." */
  static void promise16Does() {
    for (int bad = 0; bad <= 40; bad++) {
      RubatoDesk x = Book.told("desk;player;");
      due("numbers", x.numbers(0, 0, 40), 0);
      for (int i = 0; i < 40; i++) x.write(0, i, i == bad ? -2 : -1);
      due("how many", x.does(0), bad);
      due("done", x.count(6), bad);
      due("one call, if it did some", x.count(8), bad == 0 ? 0 : 1);
      due("undone as a whole", x.undo(1), bad == 0 ? BAD : 0);
      due("undone as a whole", x.count(6), 0);
    }
    RubatoDesk x = Book.told("desk;player;");
    due("no numbers", x.numbers(0, 0, 0), 0);
    due("none", x.does(0), 0);
    due("nothing to undo", x.count(8), 0);
    Book.fill(x, 0, 0, -1);
    for (int i = 1; i <= 12; i++) {
      due("each is a call", x.does(0), 1);
      due("ten at most", x.count(8), Math.min(10, i));
    }
  }

  /** "A TERM: how many could be. -3: how many times." */
  static void promise17Term() {
    RubatoDesk x = Book.told("desk;piece up 1;player;player;");
    due("0 times", x.term(5, 0), BAD);
    due("once", x.term(5, 1) >= 0 ? 1 : 0, 1);
    due("40 times", x.term(5, 40) >= 0 ? 1 : 0, 1);
    due("41 times", x.term(5, 41), BAD);
    RubatoDesk y = Book.told("desk;piece up 1;player;player;");
    y.term(5, 1);
    y.term(5, 40);
    Book.alike("the same seed, the same term", Book.look(y), Book.look(x));
    RubatoDesk nobody = new RubatoDesk();
    int fridays = nobody.term(9, 40);
    due("of nobody fridays alone can be", nobody.count(6), fridays);
    due("who is barred", nobody.count(5), 0);
  }

  /** "10 + k: by how much BAR k is DRAWN out (9: it isn't played, there is none such). -2: also what (10 to 21)." */
  static void promise18Comes() {
    RubatoDesk x = Book.told("desk;" + TWELVE + "piece;player has 20;player owes 19;");
    for (int what = -1; what <= 23; what++) {
      long due = what == 0 ? 24 : what == 1 ? -4 : what == 2 ? NONE : what >= 10 && what <= 21 ? 2 : NO_SUCH;
      due("twelve, what " + what, x.comes(0, 0, what), due);
      due = what == 0 ? 0 : what == 1 ? 20 : what == 2 ? NONE : what >= 10 && what <= 21 ? 9 : NO_SUCH;
      due("no bars, what " + what, x.comes(0, 1, what), due);
      due = what == 0 ? 1 : what == 1 ? -20 : what == 2 ? NONE : what == 10 ? 1 : what >= 11 && what <= 21 ? 0 : NO_SUCH;
      due("to the bound, what " + what, x.comes(1, 0, what), due);
    }
    due("nothing is played", x.count(4), 0);
    due("nothing is played", x.player(0, 0), 20);
  }

  /** "NO ROW; -2: also what; -3: the GOAL", "9: there is none such" */
  static void promise19Best() {
    RubatoDesk x = Book.told("desk;" + TWELVE + "piece up 1;player;player has 4;");
    for (int what = -1; what <= 23; what++) {
      // -2 as long as it can be made up in the end: six of -2, then six of 2
      long due = what == 0 ? 0 : what == 1 ? 0 : what >= 10 && what <= 15 ? -2 : what >= 16 && what <= 21 ? 2 : NO_SUCH;
      due("twelve, what " + what, x.best(0, 0, 0, what), due);
      due = what == 0 ? 2 : what == 1 ? 2 : what == 10 ? 2 : what >= 11 && what <= 21 ? 9 : NO_SUCH;
      due("one, what " + what, x.best(1, 1, 0, what), due);
      due("no row, what " + what, x.best(1, 1, 7, what), what == 0 || what == 1 || what >= 10 && what <= 21 ? NO_ROW : NO_SUCH);
    }
    due("the greatest goal that can be", x.best(1, 1, 6, 0), -2);
    due("the least goal", x.best(1, 1, -20, 0), 2);
    due("nothing is played", x.player(1, 0), 4);
  }

  /** "How many ROWS there are behind which the STORE is just so much (-20 to 20)." */
  static void promise20Rows() {
    RubatoDesk x = Book.told("desk;piece up 1 up 1;piece;player;player has 20;player owes 20;");
    long[] ways = {1, 2, 3, 4, 5, 4, 3, 2, 1};
    for (int end = -22; end <= 22; end++) {
      boolean can = end >= -20 && end <= 20;
      due("to " + end, x.rows(0, 0, end), !can ? BAD : Math.abs(end) <= 4 ? ways[end + 4] : 0);
      due("no bars, to " + end, x.rows(0, 1, end), !can ? BAD : end == 0 ? 1 : 0);
      // of draws a, b with neither 20 - a nor 20 - a - b above 20: 0 and 0; 1 and -1; 2 and -2 end at 20
      long high = end == 20 ? 3 : end == 19 ? 3 : end == 18 ? 3 : end == 17 ? 2 : end == 16 ? 1 : 0;
      due("from 20 to " + end, x.rows(1, 0, end), !can ? BAD : high);
      due("from -20 to " + -end, x.rows(2, 0, -end), !can ? BAD : high);
    }
    due("twelve bars", Book.told("desk;" + TWELVE + "player;").rows(0, 0, 0), rowsOf(12, 0));
  }

  /** ROWS of so many free BARS from 0, none beyond the bounds. */
  private static long rowsOf(int bars, int end) {
    long[] here = new long[41];
    here[20] = 1;
    for (int bar = 0; bar < bars; bar++) {
      long[] then = new long[41];
      for (int s = 0; s < 41; s++) for (int d = -2; d <= 2; d++) if (s - d >= 0 && s - d <= 40) then[s - d] += here[s];
      here = then;
    }
    return here[end + 20];
  }

  /** "The greatest STORE there can be behind a ROW. NO ROW" */
  static void promise21Thriftiest() {
    for (int store = -20; store <= 20; store++) {
      RubatoDesk x = Book.told("desk;piece up 9;piece;player " + (store < 0 ? "owes " : "has ") + Math.abs(store) + ";");
      due("from " + store, x.thriftiest(0, 0), Math.min(20, store + 2));
      due("no bars", x.thriftiest(0, 1), store);
    }
    due("to the very least", Book.told("desk;piece up 9;player owes 18;may:draw=2;").thriftiest(0, 0), -20);
    due("one less can't be", Book.told("desk;piece up 9;player owes 19;may:draw=2;").thriftiest(0, 0), NO_ROW);
    due("none", Book.told("desk;piece up 9;player;may:1=2;").thriftiest(0, 0), NO_ROW);
  }

  /** "The least STORE (-20 to 20) to begin with, by which there is a ROW of a told GLADNESS at least with a GOAL." */
  static void promise22Least() {
    RubatoDesk x = Book.told("desk;piece up 1;piece;player has 7;");
    for (int goal = -20; goal <= 20; goal++) {
      for (int gladness = -3; gladness <= 3; gladness++) {
        int needed = Math.max(goal, -20) + Math.max(-2, gladness);
        long due = gladness > 2 || needed > 20 ? NO_ROW : Math.max(-20, needed);
        due("least to " + goal + " by " + gladness, x.least(0, 0, goal, gladness), due);
      }
      due("no bars", x.least(0, 1, goal, 0), goal);
      due("no bars", x.least(0, 1, goal, 1), NO_ROW);
      due("no bars", x.least(0, 1, goal, -1), goal);
    }
    due("any gladness", x.least(0, 0, 20, Book.MIN), 18);
    due("none is so glad", x.least(0, 0, -20, Book.MAX), NO_ROW);
    due("-20 will do", Book.told("desk;piece up 1;player;may:store=0-20;").least(0, 0, -20, 0), -20);
    due("only 20 will do", Book.told("desk;piece up 1;player;may:store=20;").least(0, 0, -20, 0), 20);
    due("only 20 will do, not beyond", Book.told("desk;piece up 1;player;may:store=21;").least(0, 0, -20, 0), NO_ROW);
    due("the least gladness of all", Book.told("desk;" + TWELVE + "player;glad:0-999*999*999;").least(0, 0, -20, -12000000), -20);
    due("one more", Book.told("desk;" + TWELVE + "player;glad:0-999*999*999;").least(0, 0, -20, -11999999), NO_ROW);
    due("the greatest gladness of all", Book.told("desk;" + TWELVE + "player;glad:999*999*999;").least(0, 0, -20, 12000000), -20);
    due("one more", Book.told("desk;" + TWELVE + "player;glad:999*999*999;").least(0, 0, -20, 12000001), NO_ROW);
  }

  /** "the GLADNESS of THE BEST ROW and 3 times the GOAL are most together, the least of like ones" */
  static void promise23Squarest() {
    for (int want = 0; want <= 9; want++) {
      due("want " + want, Book.told("desk;piece up " + want + ";player;").squarest(0, 0), want < 3 ? 2 : -2);
      due("the bound above, want " + want, Book.told("desk;piece up " + want + ";player has 20;").squarest(0, 0), want < 3 ? 20 : 18);
      due("the bound below, want " + want, Book.told("desk;piece up " + want + ";player owes 20;").squarest(0, 0), want < 3 ? -18 : -20);
    }
    due("no bars", Book.told("desk;piece;player owes 20;").squarest(0, 0), -20);
    due("no bars", Book.told("desk;piece;player has 20;").squarest(0, 0), 20);
    due("all together far below 0", Book.told("desk;" + TWELVE + "player owes 20;glad:0-999*999*999;may:draw=0;").squarest(0, 0), -20);
    due("no rows", Book.told("desk;piece up 1;player;may:1=2;").squarest(0, 0), NO_ROW);
    // goals below the end of the only row are worth less: the goal is that end
    due("the only row", Book.told("desk;piece up 1;player has 5;may:draw=1;").squarest(0, 0), 4);
  }

  /** "10 + k: the k-th PIECE (NONE: not so many)"; "-3: the set is empty, has others than PIECES" */
  static void promise24Order() {
    for (int pieces = 1; pieces <= 4; pieces++) {
      RubatoDesk x = Book.told("desk;" + Book.times(pieces, "piece up 1;") + "player has 20;");
      for (int set = -1; set <= 32; set++) {
        boolean can = set > 0 && set < 1 << pieces;
        due(pieces + " pieces, set " + set, x.order(0, set, 0, 0), can ? 2L * Integer.bitCount(set) : BAD);
        for (int what = 9; what <= 14; what++) {
          boolean asked = what >= 10 && what <= 13;
          long got = x.order(0, set, 0, what);
          if (!asked || !can) due("what " + what + " of " + set, got, asked ? BAD : NO_SUCH);
          else due("what " + what + " of " + set, got == NONE ? 1 : 0, what - 10 >= Integer.bitCount(set) ? 1 : 0);
        }
      }
    }
    due("no pieces at all", Book.told("desk;player;").order(0, 1, 0, 0), BAD);
    due("no pieces at all", Book.told("desk;player;").order(0, 0, 0, 0), BAD);
    RubatoDesk x = Book.told("desk;piece up 1;player;");
    due("the greatest goal", x.order(0, 1, 2, 0), -2);
    due("one more", x.order(0, 1, 3, 0), NO_ROW);
    due("the least goal", x.order(0, 1, -20, 0), 2);
    due("the greatest gladness", Book.told("desk;" + Book.times(4, TWELVE) + "player;glad:999*999*999;").order(0, 15, -20, 0), 48000000);
  }

  /** "The set of most PIECES for which there is AN ORDER with a GOAL, the least set of like ones, as bits (0: none)." */
  static void promise25MostPieces() {
    for (int allowed = 0; allowed < 16; allowed++) {
      StringBuilder b = new StringBuilder("desk;" + Book.times(4, "piece up 1;") + "player has 20;may:draw=2 and [1=2");
      for (int piece = 0; piece < 4; piece++) if ((allowed >> piece & 1) != 0) b.append(" or piece=").append(piece);
      RubatoDesk x = Book.told(b + "];");
      due("allowed " + allowed, x.mostPieces(0, -20), allowed);
      int n = Integer.bitCount(allowed);
      for (int goal = 11; goal <= 20; goal++) {
        int can = Math.min(n, (20 - goal) / 2), least = 0;
        for (int piece = 0, left = can; piece < 4 && left > 0; piece++) {
          if ((allowed >> piece & 1) != 0) {
            least |= 1 << piece;
            left--;
          }
        }
        due("allowed " + allowed + " to " + goal, x.mostPieces(0, goal), least);
      }
    }
    due("no pieces", Book.told("desk;player;").mostPieces(0, -20), 0);
    due("all without bars", Book.told("desk;piece;piece;piece;piece;player has 20;").mostPieces(0, 20), 15);
    due("none to that goal", Book.told("desk;piece;piece;piece;piece;player has 19;").mostPieces(0, 20), 0);
  }

  /** "for which there is AN ORDER with a GOAL": a STORE of just -20 behind it, too. */
  static void promise25MostPiecesToTheVeryLeast() {
    for (int owes = 10; owes <= 20; owes++) {
      RubatoDesk x = Book.told("desk;" + Book.times(4, "piece up 1;") + "player owes " + owes + ";may:draw=2;");
      int can = Math.min(4, (20 - owes) / 2);
      due("who owes " + owes, x.mostPieces(0, -20), (1 << can) - 1);
      due("who owes " + owes + ", to -19", x.mostPieces(0, -19), (1 << Math.min(4, (19 - owes) / 2)) - 1);
    }
  }

  /** "PLAYER": the told one, by its number and its temper, the first and the last. */
  static void promise25MostPiecesOfWhom() {
    RubatoDesk x = Book.told("desk;piece up 1;piece up 1;player;" + Book.times(3, "player temper 4;") + "player temper 9;may:who=4 and temper=9 or who=0 and temper=0 and piece=1;");
    for (int p = 0; p < 5; p++) {
      due("most of " + p, x.mostPieces(p, -20), p == 4 ? 3 : p == 0 ? 2 : 0);
      due("both by " + p, x.order(p, 3, -20, 0), p == 4 ? 4 : NO_ROW);
      due("the second by " + p, x.order(p, 2, -20, 0), p == 4 || p == 0 ? 2 : NO_ROW);
    }
    due("temper", x.temper(4, 8), 9);
    due("another temper", x.order(4, 3, -20, 0), NO_ROW);
    due("another temper", x.mostPieces(4, -20), 0);
  }

  /** "The PLAYER whom a PIECE makes GLADDEST by THE BEST ROW with the GOAL 0, the first. NONE: nobody has one" */
  static void promise26Gladdest() {
    due("all alike", Book.told("desk;piece;" + Book.times(5, "player;")).gladdest(0), 0);
    due("the last", Book.told("desk;piece up 1;" + Book.times(4, "player;") + "player has 1;").gladdest(0), 4);
    due("the goal is just 0", Book.told("desk;piece;player owes 1;player;").gladdest(0), 1);
    due("2 can be made up", Book.told("desk;piece up 1;player owes 2;").gladdest(0), 0);
    due("3 can't", Book.told("desk;piece up 1;player owes 3;").gladdest(0), NONE);
    due("nobody there", Book.told("desk;piece;").gladdest(0), NONE);
    due("the least gladness of all", Book.told("desk;" + TWELVE + "player;player;glad:0-999*999*999;").gladdest(0), 0);
    due("the only one that has one", Book.told("desk;" + TWELVE + "player;player;glad:0-999*999*999;may:who=1;").gladdest(0), 1);
    due("the last piece", Book.told("desk;piece;piece;piece;piece up 1;player;player has 2;").gladdest(3), 1);
  }

  /** "TICKS to be LENT .. (0 to 40, as may be) by which both together are GLADDEST .. the fewest of like ones." */
  static void promise27Lends() {
    RubatoDesk x = Book.told("desk;piece;piece up 1;player has 20;player owes 20;player;player has 20;");
    due("who owes 20 needs 20", x.lends(0, 0, 1, 0), 20);
    due("no more than the first one can be without", x.lends(0, 0, 1, 1), 20);
    due("a full one can't be lent to", x.lends(0, 0, 3, 0), 0);
    due("an empty one can't lend", x.lends(1, 0, 2, 0), NONE);
    due("0, none is needed", x.lends(0, 0, 2, 0), 0);
    x = Book.told("desk;piece up 1;player has 20;player owes 20;glad:store*(who*2-1);may:draw=0-1 or draw=0;");
    due("all 20 that it can be without", x.lends(0, 0, 1, 0), 21);
    String twelve = "piece" + Book.times(12, " up 0") + ";";
    x = Book.told("desk;" + twelve + "piece up 0;player has 20;player owes 20;glad:store*who;");
    due("all 40", x.lends(0, 0, 1, 1), 40);
    x = Book.told("desk;" + twelve + "piece up 0;player has 19;player owes 20;glad:store*who;");
    due("39: its own store is -20 then", x.lends(0, 0, 1, 1), 39);
    x = Book.told("desk;" + twelve + "piece up 0;player has 20;player owes 19;glad:store*who;");
    due("39: the other one's is 20 then", x.lends(0, 0, 1, 1), 39);
    due("all below 0", Book.told("desk;piece up 1;player has 5;player has 5;glad:0-999*999*999;").lends(0, 0, 1, 0), 0);
    due("nothing is lent", x.player(0, 0), 20);
    due("by none", Book.told("desk;piece;player;player owes 1;").lends(0, 0, 1, 0), NONE);
    due("by just one", Book.told("desk;piece;player has 1;player owes 1;").lends(0, 0, 1, 0), 1);
  }

  /** "(0 to 40, as may be)": no more than till the other one has 20, though both are less glad by fewer. */
  static void promise27LendsToOneNearlyFull() {
    for (int has = 15; has <= 20; has++) {
      RubatoDesk x = Book.told("desk;" + TWELVE + "piece;player has 10;player has " + has + ";");
      due("who has " + has, x.lends(0, 1, 1, 0), 20 - has);
      x = Book.told("desk;" + TWELVE + "piece;player has 10;player has " + has + ";glad:0-1;");
      due("all alike, who has " + has, x.lends(0, 1, 1, 0), 0);
    }
  }

  /** "what 0: GLADNESS, 1: the STORE then, 10 + k: .. (9: there is none such). NO ROW: there is none, the first one has none" */
  static void promise28Reply() {
    RubatoDesk x = Book.told("desk;" + TWELVE + "piece;piece up 1;player has 20;player has 20;player owes 1;");
    for (int what = -1; what <= 23; what++) {
      boolean bar = what >= 10 && what <= 21;
      // both have 20 to draw out; -2 and -1 are beyond the store, so the first ones are two of 0, then ten of 2
      long due = what == 0 ? 20 : what == 1 ? 0 : what == 10 || what == 11 ? 0 : bar ? 2 : NO_SUCH;
      due("twelve, what " + what, x.reply(0, 1, 0, what), due);
      due("no bars, what " + what, x.reply(0, 1, 1, what), what == 0 ? 0 : what == 1 ? 20 : bar ? 9 : NO_SUCH);
      due("one bar, what " + what, x.reply(0, 1, 2, what), what == 0 ? 2 : what == 1 ? 18 : what == 10 ? 2 : bar ? 9 : NO_SUCH);
      due("the first has none, what " + what, x.reply(2, 1, 1, what), what == 0 || what == 1 || bar ? NO_ROW : NO_SUCH);
      due("the second has none, what " + what, x.reply(0, 2, 1, what), what == 0 || what == 1 || bar ? NO_ROW : NO_SUCH);
    }
  }

  /** "behind which the STORE is so much (-20 to 20; 99: any): how many ROWS" */
  static void promise29Heard() {
    RubatoDesk x = Book.told("desk;piece up 1 up 1;piece;player;player has 20;");
    Book.fill(x, 0, 0, 9, 9);
    Book.fill(x, 1, 0);
    for (int end = -23; end <= 23; end++) {
      boolean can = end >= -20 && end <= 20;
      due("to " + end, x.heard(0, 0, 0, end), can ? x.rows(0, 0, end) : BAD);
      due("from 20 to " + end, x.heard(0, 1, 0, end), can ? x.rows(1, 0, end) : BAD);
      due("no bars, to " + end, x.heard(1, 0, 1, end), !can ? BAD : end == 0 ? 1 : 0);
    }
    due("any", x.heard(0, 0, 0, 99), 25);
    due("any, from 20", x.heard(0, 1, 0, 99), 12);
    due("any, no bars", x.heard(1, 0, 1, 99), 1);
    due("98", x.heard(0, 0, 0, 98), BAD);
    due("100", x.heard(0, 0, 0, 100), BAD);
    due("twelve bars", Book.tell(x, "desk;" + TWELVE + "player;"), 3);
    Book.fill(x, 0, 1, 9, 9, 9, 9, 9, 9, 9, 9, 9, 9, 9, 9);
    long all = 0;
    for (int end = -20; end <= 20; end++) {
      due("twelve, to " + end, x.heard(0, 0, 0, end), rowsOf(12, end));
      all += rowsOf(12, end);
    }
    due("twelve, any", x.heard(0, 0, 0, 99), all);
  }

  /** "By how much a BAR is DRAWN out in all of these ROWS (9: by none such, no ROWS). As heard(); -7: no such BAR." */
  static void promise30Sure() {
    RubatoDesk x = Book.told("desk;piece up 1 up 1;piece;player;player has 20;");
    Book.fill(x, 0, 0, 9, 9);
    long[] ends = {-4, 4}, draws = {2, -2};
    for (int i = 0; i < 2; i++) {
      for (int bar = 0; bar < 2; bar++) due("only one row to " + ends[i], x.sure(0, 0, 0, (int) ends[i], bar), draws[i]);
    }
    for (int end = -3; end <= 3; end++) due("more than one to " + end, x.sure(0, 0, 0, end, 0), 9);
    due("none to 5", x.sure(0, 0, 0, 5, 0), 9);
    due("none to 20", x.sure(0, 0, 0, 20, 1), 9);
    due("any", x.sure(0, 0, 0, 99, 1), 9);
    for (int bar = -1; bar <= 2; bar++) due("bar " + bar, x.sure(0, 0, 0, 4, bar), bar < 0 || bar > 1 ? Book.NO_NUMBER : -2);
    for (int draw = -2; draw <= 2; draw++) {
      Book.fill(x, 0, 0, draw, 9);
      due("heard " + draw, x.sure(0, 0, 0, 99, 0), draw);
      due("heard " + draw + ", by the end", x.sure(0, 0, 0, -draw, 1), 0);
      due("heard " + draw + ", from 20", x.sure(0, 1, 0, 99, 0), draw < 0 ? 9 : draw);
    }
    Book.fill(x, 1, 0);
    due("no bars", x.sure(1, 0, 1, 99, 0), Book.NO_NUMBER);
    due("twelve bars", Book.tell(x, "desk;" + TWELVE + "player;may:draw=bar*0+1;"), 4);
    Book.fill(x, 0, 1, 9, 9, 9, 9, 9, 9, 9, 9, 9, 9, 9, 9);
    due("the twelfth", x.sure(0, 0, 0, 99, 11), 1);
    due("a thirteenth", x.sure(0, 0, 0, 99, 12), Book.NO_NUMBER);
  }

  /** "TEMPERS, as bits." */
  static void promise31Tempers() {
    for (int temper = 0; temper <= 9; temper++) {
      RubatoDesk x = Book.told("desk;piece up 1;player;glad:0-(temper-" + temper + ")*(temper-" + temper + ")*draw+draw;");
      Book.fill(x, 0, 0, 2);
      due("just " + temper, x.tempers(0, 0, 0), 1 << temper);
      x = Book.told("desk;piece up 1;player;may:temper=" + temper + ";");
      Book.fill(x, 0, 0, 9);
      due("all others break off", x.tempers(0, 0, 0), 1 << temper);
    }
    RubatoDesk x = Book.told("desk;piece;player;may:1=2;");
    Book.fill(x, 0, 0);
    due("no bars: all", x.tempers(0, 0, 0), 1023);
    x = Book.told("desk;piece up 1;player;may:1=2;");
    Book.fill(x, 0, 0, 9);
    due("none", x.tempers(0, 0, 0), 0);
    x = Book.told("desk;" + TWELVE + "player has 20;may:bar<11 or temper>4;");
    Book.fill(x, 0, 0, 9, 9, 9, 9, 9, 9, 9, 9, 9, 9, 9, 9);
    due("the twelfth breaks off", x.tempers(0, 0, 0), 1023 - 31);
    Book.fill(x, 0, 0, 9, 9, 9, 9, 9, 9, 9, 9, 9, 9, 9, 1);
    due("the twelfth was heard otherwise", x.tempers(0, 0, 0), 0);
  }

  /** "the greatest number of these TEMPERS by which the STORE is alike then (where it breaks off: as then) is least, the first" */
  static void promise32Next() {
    RubatoDesk x = Book.told("desk;piece;piece up 1;piece up 1;piece up 1;player;may:[piece=1 and draw=0] or [piece=2 and draw=1-1*temper and temper<2] "
        + "or piece=3 and [temper<5 and draw=0 or temper>4 and draw=1];");
    Book.fill(x, 0, 0);
    due("all ten", x.tempers(0, 0, 0), 1023);
    // by 1 all are alike; by 2 temper 1 and those that break off draw nothing: nine; by 3 there are five and five
    due("five and five", x.next(0, 0, 0), 3);
    due("the piece itself is not among them", Book.tell(x, "desk;piece up 1;piece up 1;player;may:piece=1 or draw=0;"), 5);
    Book.fill(x, 0, 0, 0);
    due("1 is the only other one", x.next(0, 0, 0), 1);
    due("0 is the only other one", x.next(0, 0, 1), NONE);
    Book.fill(x, 0, 0, 9);
    due("0 is the only other one", x.next(0, 0, 1), 0);
    due("no other pieces", Book.tell(x, "desk;piece up 1;player;"), 3);
    due("no other pieces", x.next(0, 0, 0), NONE);
    due("like ones", Book.tell(x, "desk;piece up 1;piece;piece;piece;player;"), 6);
    due("the first", x.next(0, 0, 0), 1);
    due("one temper", Book.tell(x, "desk;piece up 1;piece up 1;piece;player;may:temper=9;"), 6);
    due("one temper, the first", x.next(0, 0, 0), 1);
    due("behind it", Book.tell(x, "desk;piece;piece;piece;piece up 1;player;"), 6);
    due("the first, ahead of it", x.next(0, 0, 3), 0);
  }

  /** "of these TEMPERS": 0 and 9 count, others than these don't; "is least, the first": wherever it stands. */
  static void promise32NextByTheTempers() {
    // a bar that wants w is hurried by tempers 0 to w, and drawn out by those above w
    String law = "player;glad:draw*(temper-want);";
    int[][] wants = {{4, 3}, {3, 4}, {4, 5}, {5, 4}, {3, 5}, {5, 3}, {4, 3, 0}, {3, 4, 5}, {0, 3, 4}, {8, 0, 9}, {9, 8, 0}};
    for (int[] w : wants) {
      StringBuilder b = new StringBuilder("desk;piece;");
      int least = 11, found = NONE;
      for (int i = 0; i < w.length; i++) {
        b.append("piece up ").append(w[i]).append(';');
        int most = Math.max(w[i] + 1, 9 - w[i]);
        if (most < least) {
          least = most;
          found = i + 1;
        }
      }
      RubatoDesk x = Book.told(b + law);
      Book.fill(x, 0, 0);
      due("next by all, " + b, x.next(0, 0, 0), found);
    }
    RubatoDesk x = Book.told("desk;piece up 1;piece up 0;piece up 4;" + law);
    Book.fill(x, 0, 0, -2);
    due("0 and 1", x.tempers(0, 0, 0), 3);
    due("told apart by 1 alone", x.next(0, 0, 0), 1);
    x = Book.told("desk;piece up 0 up 2;piece up 0;piece up 1;" + law);
    Book.fill(x, 0, 0, 2, -2);
    due("1 and 2", x.tempers(0, 0, 0), 6);
    due("told apart by 2 alone", x.next(0, 0, 0), 2);
    x = Book.told("desk;piece up 7;piece up 7;piece up 8;" + law);
    Book.fill(x, 0, 0, 2);
    due("8 and 9", x.tempers(0, 0, 0), 768);
    due("told apart by 2 alone", x.next(0, 0, 0), 2);
  }

  /** "CHANCE with a GOAL, what 0: the number above, 1: below." */
  static void promise33Chance() {
    RubatoDesk x = Book.told("desk;piece down 1 down 1;piece;player;player has 20;player owes 20;slips 1;");
    for (int goal = -22; goal <= 22; goal++) {
      boolean can = goal >= -20 && goal <= 20;
      due("above, " + goal, x.chance(0, 0, goal, 0), !can ? BAD : goal <= 2 ? 1 : goal == 3 ? 99 : goal == 4 ? 81 : 0);
      due("below, " + goal, x.chance(0, 0, goal, 1), !can ? BAD : goal <= 2 || goal > 4 ? 1 : 100);
      due("no bars, above, " + goal, x.chance(0, 1, goal, 0), !can ? BAD : goal <= 0 ? 1 : 0);
      due("no bars, below, " + goal, x.chance(0, 1, goal, 1), !can ? BAD : 1);
      // from 20 it is drawn out by 0, by a slip by 1; from 19 by -1, by a slip by 0: to 20 by 9 in 10 either way
      due("from 20, above, " + goal, x.chance(1, 0, goal, 0), !can ? BAD : goal == 20 ? 9 : 1);
      due("from 20, below, " + goal, x.chance(1, 0, goal, 1), !can ? BAD : goal == 20 ? 10 : 1);
    }
  }

  /** "by which CHANCE with the GOAL 0 is m in 100 (0 to 100) at least" */
  static void promise34PutBy() {
    RubatoDesk x = Book.told("desk;piece up 1;piece;player;slips 3;glad:0-(draw-1)*(draw-1);");
    for (int m = -2; m <= 102; m++) {
      // drawn out by 1, by a slip by 2: from 1 on it is 7 in 10, from 2 on sure
      due("m " + m, x.putBy(0, 0, m), m < 0 || m > 100 ? BAD : m == 0 ? -20 : m <= 70 ? 1 : 2);
      due("no bars, m " + m, x.putBy(0, 1, m), m < 0 || m > 100 ? BAD : m == 0 ? -20 : 0);
    }
    x = Book.told("desk;piece" + Book.times(2, " up 1") + ";player;slips 1;glad:0-(draw-1)*(draw-1);");
    due("81 in 100 just so", x.putBy(0, 0, 81), 2);
    due("82", x.putBy(0, 0, 82), 3);
    due("99 in 100 just so", x.putBy(0, 0, 99), 3);
    due("100", x.putBy(0, 0, 100), 4);
    x = Book.told("desk;piece" + Book.times(3, " up 1") + ";player;slips 1;glad:0-(draw-1)*(draw-1);");
    due("972 in 1000 are 97 in 100", x.putBy(0, 0, 97), 4);
    due("but not 98", x.putBy(0, 0, 98), 5);
    due("999 in 1000 are 99 in 100", x.putBy(0, 0, 99), 5);
    due("but not 100", x.putBy(0, 0, 100), 6);
    due("the most that can be needed", Book.told("desk;piece" + Book.times(10, " up 1") + ";player;").putBy(0, 0, 100), 20);
    due("more than can be", Book.told("desk;piece" + Book.times(11, " up 1") + ";player;").putBy(0, 0, 1), NO_ROW);
    due("the least", Book.told("desk;piece" + Book.times(10, " down 1") + ";player;").putBy(0, 0, 100), -20);
    due("by the store of now is no matter", Book.told("desk;piece;player owes 20;").putBy(0, 0, 100), 0);
    due("it breaks off", Book.told("desk;piece up 1;player;may:1=2;").putBy(0, 0, 1), NO_ROW);
    due("0 in 100", Book.told("desk;piece up 1;player;may:1=2;").putBy(0, 0, 0), -20);
  }

  /** "A TRAY has n numbers of a sort, all 0 (in place of another one): 0." */
  static void promise35Numbers() {
    RubatoDesk x = Book.told("desk;piece up 1 up 1;player;");
    for (int tray = 0; tray < 4; tray++) {
      Book.fill(x, tray, 3, 9, 9);
      due("nine", x.heard(tray, 0, 0, 99), 25);
      due("in place of it", x.numbers(tray, 2, 2), 0);
      due("all 0", x.heard(tray, 0, 0, 99), 1);
      due("all 0", x.heard(tray, 0, 0, 0), 1);
      due("more", x.numbers(tray, 0, 40), 0);
      due("more", x.heard(tray, 0, 0, 99), Book.TOO_MANY);
      due("the same again, all 0", x.write(tray, 39, 7), 7);
      due("numbers", x.numbers(tray, 0, 40), 0);
      due("none", x.numbers(tray, 0, 0), 0);
      due("no number", x.write(tray, 0, 0), Book.NO_NUMBER);
      due("it isn't missing", x.does(tray), 0);
    }
    for (int n : new int[] {-1, 41}) {
      Book.fill(x, 0, 1, 9, 2);
      due("numbers " + n, x.numbers(0, 3, n), BAD);
      due("the tray stays", x.heard(0, 0, 0, 99), 5);
      due("its sort stays", x.write(0, 0, 65545), 9);
    }
    Book.fill(x, 0, 0, 9, 9);
    due("another desk", Book.tell(x, "desk;piece up 1 up 1;player has 20;"), 3);
    due("the trays stay", x.heard(0, 0, 0, 99), 12);
  }

  /** "Number i of a TRAY is v, cut to its sort: as it is there." */
  static void promise36Write() {
    RubatoDesk x = new RubatoDesk();
    long[] values = {0, 1, -1, 127, 128, -128, -129, 255, 256, 32767, 32768, -32768, -32769, 65535, 65536, Integer.MAX_VALUE, Integer.MAX_VALUE + 1L,
        Integer.MIN_VALUE, Integer.MIN_VALUE - 1L, 4294967295L, 4294967296L, Long.MAX_VALUE, Long.MIN_VALUE, -99000002L};
    for (long v : values) {
      long[] cut = {(byte) v, (short) v, (int) v, v};
      for (int sort = 0; sort < 4; sort++) {
        x.numbers(0, sort, 40);
        due("first, sort " + sort, x.write(0, 0, v), cut[sort]);
        due("last, sort " + sort, x.write(0, 39, v), cut[sort]);
        due("one ahead", x.write(0, -1, v), Book.NO_NUMBER);
        due("one beyond", x.write(0, 40, v), Book.NO_NUMBER);
      }
    }
    x = Book.told("desk;piece up 1 up 1 up 1;player;");
    Book.fill(x, 0, 0, 0, 0, 0);
    x.write(0, 1, 265);
    due("cut, and no other one", x.heard(0, 0, 0, 99), 5);
    due("cut, and no other one", x.sure(0, 0, 0, 99, 0), 0);
    due("cut, and no other one", x.sure(0, 0, 0, 99, 2), 0);
  }

  /** "comes into a TRAY, as far as it has places: how many" */
  static void promise37Lists() {
    for (int places = 0; places <= 14; places++) {
      RubatoDesk x = Book.told("desk;" + TWELVE + "player has 20;");
      due("numbers", x.numbers(0, 0, places), 0);
      for (int i = 0; i < places; i++) x.write(0, i, 9);
      due("how many of " + places, x.lists(0, 0, 0, -4), Math.min(12, places));
      if (places == 12) {
        due("the row", x.heard(0, 0, 0, 99), 1);
        due("the row", x.heard(0, 0, 0, -4), 1);
      } else {
        due("no row", x.heard(0, 0, 0, 99), Book.TOO_MANY);
      }
    }
    RubatoDesk x = Book.told("desk;piece up 1;piece up 1 up 1 up 1;player;");
    Book.fill(x, 0, 0, 9, 9, 9);
    due("one", x.lists(0, 0, 0, 2), 1);
    due("the first", x.sure(0, 0, 1, 99, 0), -2);
    due("the others stay", x.heard(0, 0, 1, 99), 25);
    due("the goal can't be", x.lists(0, 0, 0, 3), Book.NOT_NOW);
    due("all stays", x.heard(0, 0, 1, 99), 25);
    Book.fill(x, 0, 0);
    due("no places", x.lists(0, 0, 0, 2), 0);
    due("no bars", Book.told("desk;piece;player;").lists(0, 0, 0, 0), Book.MISSING);
  }

  /** "An IMAGE is made: 0." */
  static void promise38Image() {
    RubatoDesk x = new RubatoDesk();
    due("of nothing", x.image(1), 0);
    due("nothing", x.restore(1), 0);
    due("nothing", x.count(10), 0);
    due("the other one", x.restore(0), Book.NOT_NOW);
    x = Book.rich();
    String ahead = Book.look(x);
    due("in place of another one", x.image(0), 0);
    Book.alike("nothing changes", Book.look(x), ahead);
    due("can be undone still", x.count(8), 4);
    due("undo", x.undo(4), 0);
    due("restore", x.restore(0), 0);
    due("the newer one", x.count(6), 1);
  }

  /** "All that is in an IMAGE is as it was: 0." */
  static void promise39Restore() {
    RubatoDesk x = Book.rich();
    x.image(1);
    for (int i = 0; i < 3; i++) {
      x.friday();
      x.lend(2, 0, 1);
      due("restore " + i, x.restore(1), 0);
      due("week", x.count(6), 1);
      due("store", x.player(2, 0), 17);
      due("undo", x.count(8), 0);
      due("the tape stays", x.count(9), 40);
      due("the fault stays", x.fault(0), 3);
      due("a missing tray stays", x.does(3), Book.MISSING);
    }
    for (int i = 0; i < 6; i++) {
      due("desks in between", x.desk(0), Book.FAULT - 2);
      due("desks in between", Book.tell(x, "desk;piece down " + i + ";player has " + i + ";slips " + i + ";glad:" + i + ";may:draw<" + i + ";"), 6);
    }
    due("restore", x.restore(1), 0);
    due("slips", x.count(7), 2);
    due("pieces", x.count(0), 4);
    due("law", x.comes(0, 3, 2), 0);
    due("no law", x.glad(0, 0, 0, 2, 0), 6);
    due("temper", x.player(1, 2), 7);
    due("joy", x.player(0, 1), 12);
    due("barred", x.count(5), 2);
  }

  /** "All that is in an IMAGE is as it was": both, each with a desk of its own, whatever desks come behind them. */
  static void promise39RestoreOfBoth() {
    for (int first = 0; first < 2; first++) {
      RubatoDesk x = new RubatoDesk();
      for (int i = 0; i < 2; i++) {
        due("desk", Book.tell(x, "desk;piece up " + (i + 1) + ";player has " + (i + 3) + ";slips " + i + ";"), 4);
        due("image", x.image(i == 0 ? first : 1 - first), 0);
      }
      for (int more = 0; more < 6; more++) {
        due("another desk", Book.tell(x, "desk;piece up 9 up 9;player has 9;player;slips 9;glad:9;may:1=2;"), 7);
        int i = more % 2;
        due("restore", x.restore(i == 0 ? first : 1 - first), 0);
        due("wants", x.wants(0, 0), i + 1);
        due("bars", x.count(2), 1);
        due("players", x.count(1), 1);
        due("slips", x.count(7), i);
        due("store", x.player(0, 0), i + 3);
        due("no laws", x.best(0, 0, -20, 0), 2 * (i + 1));
        if (more == 3) for (int n = 0; n < 3; n++) due("some more", Book.tell(x, "desk;piece up " + n + ";"), 2);
      }
    }
  }

  /** "All that is in an IMAGE is as it was": one of no desk at all, too, with any number of desks behind it. */
  static void promise39RestoreOfNoDesk() {
    for (int i = 0; i < 2; i++) {
      for (int desks = 1; desks <= 6; desks++) {
        RubatoDesk x = new RubatoDesk();
        x.friday();
        due("image of no desk", x.image(i), 0);
        for (int n = 0; n < desks; n++) due("desk", Book.tell(x, "desk;piece up 9;player has 9;slips 9;glad:9;"), 5);
        due("restore", x.restore(i), 0);
        for (int what = 0; what <= 10; what++) due("count " + what, x.count(what), what == 6 ? 1 : 0);
        due("no player", x.player(0, 0), Book.NO_SUCH);
        due("no piece", x.bars(0), Book.NO_SUCH);
      }
    }
  }

  /** "0 PIECES, 1 PLAYERS, 2 BARS together, 3 STORES together, .. NONE for others": the least and the greatest. */
  static void promise40Count() {
    RubatoDesk x = Book.told("desk;" + Book.times(4, TWELVE) + Book.times(5, "player has 20;") + "slips 10;");
    long[] due = {4, 5, 48, 100, 0, 0, 0, 10, 0, 0, 11};
    for (int what = -2; what <= 12; what++) due("count(" + what + ")", x.count(what), what < 0 || what > 10 ? NONE : due[what]);
    x = Book.told("desk;" + Book.times(5, "player owes 20;"));
    x.friday();
    long[] then = {0, 5, 0, -100, 0, 31, 1, 0, 1, 0, 6};
    for (int what = 0; what <= 10; what++) due("count(" + what + ")", x.count(what), then[what]);
    x = Book.told("desk;" + TWELVE + Book.times(5, "player;") + "glad:999*999*999;may:draw=0;");
    for (int p = 0; p < 5; p++) x.play(p, 0);
    due("all joy", x.count(4), 49999995);
    for (int i = 0; i < 12; i++) x.friday();
    due("ten at most", x.count(8), 10);
    due("weeks", x.count(6), 12);
  }
}
