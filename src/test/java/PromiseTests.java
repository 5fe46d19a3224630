/** Each promise of the document by hand: ordinary inputs, the edges that it names, and each code. */
public final class PromiseTests {
  private static final long NO_ROW = -99000001, NO_SUCH = -99000002, BAD = -99000003, TOO_MANY = -99000004, NOT_NOW = -99000005,
      MISSING = -99000006, NO_NUMBER = -99000007, WHY1 = -99000011, WHY2 = -99000012, WHY3 = -99000013, FAULT = -99000030;
  private static final int NONE = RubatoDesk.NONE;
  private static int wrong = 0;
  private static int checked = 0;
  private static String promise = "";

  /** Two pieces with bars, one without; one who has, one who owes, one whose store is full. */
  private static final String DESK = "desk;piece up 3 down 1 up 2;piece down 2 down 2;piece;"
      + "player has 2 temper 1;player owes 1;player has 20 temper 4;slips 2;";

  private static void due(String call, long got, long want) {
    checked++;
    if (got != want) {
      wrong++;
      System.out.println(promise + ": " + call + " answered " + got + ", due is " + want);
    }
  }

  private static int feedText(RubatoDesk x, String text) {
    int fed = 0;
    for (int i = 0; i < text.length(); i += 20) {
      int[] w = new int[5];
      for (int k = 0; k < 20; k++) w[k / 4] = w[k / 4] << 8 | (i + k < text.length() ? text.charAt(i + k) & 255 : ' ');
      fed = x.feed(w[0], w[1], w[2], w[3], w[4]);
    }
    return fed;
  }

  private static long tell(RubatoDesk x, String text) {
    feedText(x, text);
    return x.desk(text.length());
  }

  private static RubatoDesk told(String text) {
    RubatoDesk x = new RubatoDesk();
    long lines = tell(x, text);
    if (lines < 1) due("a desk " + text, lines, 1);
    return x;
  }

  private static void fill(RubatoDesk x, int tray, int sort, long... numbers) {
    due("numbers", x.numbers(tray, sort, numbers.length), 0);
    for (int i = 0; i < numbers.length; i++) due("write", x.write(tray, i, numbers[i]), numbers[i]);
  }

  private static void faulty(String text, int kind, int place) {
    RubatoDesk x = new RubatoDesk();
    due("desk of " + text, tell(x, text), FAULT - kind);
    due("fault(0) of " + text, x.fault(0), kind);
    due("fault(1) of " + text, x.fault(1), place);
  }

  private static void right(String text, int lines) {
    RubatoDesk x = new RubatoDesk();
    due("desk of " + text, tell(x, text), lines);
    due("fault(0) of " + text, x.fault(0), 0);
    due("fault(1) of " + text, x.fault(1), NONE);
  }

  public static void main(String[] args) {
    promise1();
    promise2();
    promise3();
    promise3Faults();
    promise4();
    promises5To8();
    laws();
    promise9();
    promise10();
    promise11();
    promise12();
    promise13();
    promise14();
    promises15And16();
    promise17();
    promise18();
    promise19();
    promises20And21();
    promises22And23();
    promise24();
    promise25();
    promise26();
    promise27();
    promise28();
    promises29And30();
    promises31And32();
    promise33();
    promise34();
    promises35And36();
    promise37();
    promises38And39();
    promise40();
    longPieces();
    longLaw();
    whoAndTemper();
    manyCalls();
    System.out.println(checked + " answers checked, " + wrong + " are not as due");
    if (wrong != 0) System.exit(1);
  }

  private static void promise1() {
    promise = "1 a new object";
    RubatoDesk x = new RubatoDesk();
    for (int what = 0; what <= 10; what++) due("count(" + what + ")", x.count(what), 0);
    due("fault(0)", x.fault(0), 0);
    due("fault(1)", x.fault(1), NONE);
    due("player", x.player(0, 0), NO_SUCH);
    due("bars", x.bars(0), NO_SUCH);
    due("gladdest", x.gladdest(0), NO_SUCH);
    for (int t = 0; t < 4; t++) due("judge", x.judge(t, 0), MISSING);
    due("restore", x.restore(1), NOT_NOW);
    due("NONE", RubatoDesk.NONE, -1);
  }

  private static void promise2() {
    promise = "2 feed";
    RubatoDesk x = new RubatoDesk();
    for (int i = 1; i <= 45; i++) due("feed", x.feed(0x20202020, 0x20202020, 0x20202020, 0x20202020, 0x20202020), 20 * i);
    due("feed above 900", x.feed(0, 0, 0, 0, 0), NOT_NOW);
    due("count(9)", x.count(9), 900);
    due("desk of blanks", x.desk(900), FAULT - 2);
    due("fault(1)", x.fault(1), 900);
    due("feed again", x.feed(0x6465736b, 0x3b706965, 0x63653b20, 0x80ffffff, 0), 20);
    due("the highest byte first", x.desk(12), 2);
    x.feed(0x6465736b, 0x3b20ff20, 0, 0, 0);
    due("a byte above 127", x.desk(8), FAULT - 1);
    due("its place", x.fault(1), 6);
  }

  private static void promise3() {
    promise = "3 desk";
    RubatoDesk x = new RubatoDesk();
    due("desk of nothing", x.desk(0), FAULT - 2);
    due("fault(1)", x.fault(1), 0);
    due("desk(1) of nothing", x.desk(1), BAD);
    feedText(x, DESK);
    int fed = x.count(9);
    due("desk(-1)", x.desk(-1), BAD);
    due("desk above", x.desk(fed + 1), BAD);
    due("desk min", x.desk(Integer.MIN_VALUE), BAD);
    due("desk max", x.desk(Integer.MAX_VALUE), BAD);
    due("the tape stays", x.count(9), fed);
    due("desk", x.desk(DESK.length()), 8);
    due("the tape is empty", x.count(9), 0);
    due("a part of the tape", tellPart(x, "desk;piece;player;", 11), 2);
    due("the whole tape is gone", x.count(9), 0);
    due("pieces", x.count(0), 1);
    due("players", x.count(1), 0);

    x = told(DESK);
    x.play(0, 0);
    x.lend(0, 1, 3);
    due("friday", x.friday(), 1);
    fill(x, 2, 3, 5);
    due("a fault", tell(x, "desk;player has 21;"), FAULT - 3);
    due("all stays: tape", x.count(9), 0);
    due("all stays: joy", x.player(0, 1), 12);
    due("all stays: week", x.count(6), 1);
    due("all stays: undo", x.count(8), 3);
    due("all stays: lines", x.count(10), 8);
    due("desk", tell(x, "desk;player has 3;"), 2);
    due("joy", x.count(4), 0);
    due("week", x.count(6), 0);
    due("barred", x.count(5), 0);
    due("undone", x.count(8), 0);
    due("undo", x.undo(1), BAD);
    due("pieces", x.count(0), 0);
    due("store", x.player(0, 0), 3);
    due("trays stay", x.write(2, 0, 1), 1);
    due("the law is gone", tell(x, "desk;piece up 1;player;may : 1 = 2;slips 3;"), 5);
    due("the law is gone", tell(x, "desk;piece up 1;player;"), 3);
    due("no law", x.comes(0, 0, 2), NONE);
    due("no slips", x.count(7), 0);
  }

  private static long tellPart(RubatoDesk x, String text, int n) {
    feedText(x, text);
    return x.desk(n);
  }

  private static void promise3Faults() {
    promise = "3 desk, texts";
    right("desk;", 1);
    right("\n desk \n ; \n", 1);
    right("desk;piece up3down9;player has20owes0temper9;slips10;", 4);
    right("desk;slips 000;slips 010;slips 3;", 4);
    right("desk;piece up 009;", 2);
    right("desk;may:not[1=1]and[[[[[0<1]]]]];", 2);
    right("desk;glad:((((((1))))));", 2);
    right("desk;may:not not not not not not 1=1;", 2);
    right("desk;may:not not not not not 1=(1);", 2);
    right("desk;may:not 1=1 and not not 2=2 or [not [(1)=(((1)))]];", 2);
    right("desk;glad:who+temper-piece*bar+want+draw+last+store;", 2);
    right("desk;piece;piece;piece;piece;player;player;player;player;player;", 10);
    faulty("", 2, 0);
    faulty("   ", 2, 3);
    faulty(" piece;", 2, 1);
    faulty("desks;", 2, 0);
    faulty("desk;;", 2, 5);
    faulty("desk;desk;", 2, 5);
    faulty("desk;piece", 2, 10);
    faulty("desk;piece  ", 2, 12);
    faulty("desk;piece up", 2, 13);
    faulty("desk;piece upup 1;", 2, 11);
    faulty("desk;piece up 10;", 3, 14);
    faulty("desk;piece down 999;", 3, 16);
    faulty("desk;piece up 1000;", 1, 14);
    faulty("desk;piece 1000;", 1, 11);
    faulty("desk;piece 100;", 2, 11);
    faulty("desk;piece up 1 temper 1;", 2, 16);
    faulty("desk;player up 1;", 2, 12);
    faulty("desk;player has 21;", 3, 16);
    faulty("desk;player owes 21;", 3, 17);
    faulty("desk;player temper 10;", 3, 19);
    faulty("desk;player has 2 3;", 2, 18);
    faulty("desk;slips 11;", 3, 11);
    faulty("desk;slips;", 2, 10);
    faulty("desk;Piece;", 1, 5);
    faulty("desk;\tpiece;", 1, 5);
    faulty("desk;\u00e9;", 1, 5);
    faulty("desk\r;", 1, 4);
    faulty("desk;foo ?", 2, 5);
    faulty("desk;piece;piece;piece;piece;piece 1000", 4, 29);
    faulty("desk;player;player;player;player;player;player;", 4, 40);
    faulty("desk;piece up 1 up 1 up 1 up 1 up 1 up 1 up 1 up 1 up 1 up 1 up 1 up 1 down 99;", 4, 71);
    faulty("desk;glad;", 2, 9);
    faulty("desk;glad 1;", 2, 10);
    faulty("desk;glad:;", 2, 10);
    faulty("desk;glad:1=1;", 2, 11);
    faulty("desk;glad:-1;", 2, 10);
    faulty("desk;glad:1+;", 2, 12);
    faulty("desk;glad:1 2;", 2, 12);
    faulty("desk;glad:desk;", 2, 10);
    faulty("desk;glad:[1=1];", 2, 10);
    faulty("desk;glad:(1];", 2, 12);
    faulty("desk;glad:1);", 2, 11);
    faulty("desk;may:1;", 2, 10);
    faulty("desk;may:1=1=1;", 2, 12);
    faulty("desk;may:[1=1);", 2, 13);
    faulty("desk;may:(1=1);", 2, 11);
    faulty("desk;may:1=1 or;", 2, 15);
    faulty("desk;may:1=1 not 1=1;", 2, 13);
    faulty("desk;may:1+not 1=1;", 2, 11);
    faulty("desk;glad:(((((((1;", 4, 16);
    right("desk;may:not[not[(1)=((1))]]and not[not[not[1=1]]]or [[((((1))))=1]];", 2);
    faulty("desk;may:not[not[(1)=(1]]];", 2, 23);
    faulty("desk;may:not[not[not[1=(1)]]];", 4, 23);
    faulty("desk;may:not[not[((1))=(((1)))]];", 4, 25);
    faulty("desk;may:[[[[[[[1=1;", 4, 15);
    faulty("desk;may:not not not not not not not 1=1;", 4, 33);
    faulty("desk;may:not not not not not not (1)=1;", 4, 33);
    faulty("desk;may:not not not not not not 1=(1);", 4, 35);
  }

  private static void promise4() {
    promise = "4 fault";
    RubatoDesk x = new RubatoDesk();
    due("other", x.fault(2), NONE);
    due("other", x.fault(-1), NONE);
    due("faulty", tell(x, "desk;slips 11;"), FAULT - 3);
    due("kind", x.fault(0), 3);
    due("place", x.fault(1), 11);
    due("not read", x.desk(5), BAD);
    due("kind", x.fault(0), 3);
    due("other", x.fault(2), NONE);
    due("right", tell(x, "desk;"), 1);
    due("kind", x.fault(0), 0);
    due("place", x.fault(1), NONE);
  }

  private static void promises5To8() {
    promise = "5 player";
    RubatoDesk x = told("desk;player has 20 owes 20 temper 9 temper 3;player owes 4 has 7;player;");
    due("the later strikes", x.player(0, 0), -20);
    due("the later strikes", x.player(1, 0), 7);
    due("none told", x.player(2, 0), 0);
    due("temper", x.player(0, 2), 3);
    due("temper none told", x.player(1, 2), 0);
    due("joy", x.player(0, 1), 0);
    x.friday();
    due("barred", x.player(0, 3), 1);
    due("not barred", x.player(1, 3), 0);
    due("no such", x.player(3, 0), NO_SUCH);
    due("no such", x.player(-1, 0), NO_SUCH);
    due("no such what", x.player(0, 4), NO_SUCH);
    due("no such what", x.player(0, -1), NO_SUCH);
    promise = "6 wants";
    x = told(DESK);
    due("up", x.wants(0, 0), 3);
    due("down", x.wants(0, 1), -1);
    due("the last", x.wants(1, 1), -2);
    due("no bar", x.wants(1, 2), NO_SUCH);
    due("no bar", x.wants(0, -1), NO_SUCH);
    due("no bar", x.wants(2, 0), NO_SUCH);
    due("no piece", x.wants(3, 0), NO_SUCH);
    due("no piece", x.wants(-1, 0), NO_SUCH);
    promise = "7 bars";
    due("three", x.bars(0), 3);
    due("two", x.bars(1), 2);
    due("0, too", x.bars(2), 0);
    due("no piece", x.bars(3), NO_SUCH);
    due("no piece", x.bars(-1), NO_SUCH);
    promise = "8 glad";
    due("without a law", x.glad(0, 0, 0, 2, 0), 6);
    due("without a law", x.glad(0, 0, 1, 2, -2), -2);
    due("no player first", x.glad(3, 0, 0, 3, 0), NO_SUCH);
    due("no bar first", x.glad(0, 0, 3, 0, 3), NO_SUCH);
    due("draw", x.glad(0, 0, 0, 3, 0), BAD);
    due("draw", x.glad(0, 0, 0, -3, 0), BAD);
    due("last", x.glad(0, 0, 0, 0, 3), BAD);
    due("last", x.glad(0, 0, 0, 0, -3), BAD);
    due("the store's bounds are no matter", x.glad(2, 0, 0, -2, 0), -6);
    x = told("desk;piece;piece up 1 down 7;player;player owes 6 temper 3;glad : who * 100 + temper * 10 + piece;");
    due("who, temper, piece", x.glad(1, 1, 1, 0, 0), 131);
    x = told("desk;piece;piece up 1 down 7;player;player owes 6 temper 3;glad:bar*100-want*10+draw*999+last+store;may:1=2;");
    due("bar, want, draw, last, store, without may", x.glad(1, 1, 1, -2, 2), 100 + 70 - 2 * 999 + 2 - 6);
    due("a last one at the first bar", x.glad(1, 1, 0, 1, -2), -10 + 999 - 2 - 6);
  }

  private static long gladBy(String law) {
    return told("desk;piece up 1;player;glad : " + law + ";").glad(0, 0, 0, 0, 0);
  }

  private static long mayBy(String law) {
    return told("desk;piece up 1;player;may : " + law + ";").comes(0, 0, 2) == NONE ? 1 : 0;
  }

  private static void laws() {
    promise = "8 laws";
    due("from the left", gladBy("10 - 3 - 2"), 5);
    due("* first", gladBy("2 + 3 * 4"), 14);
    due("brackets", gladBy("(2 + 3) * 4"), 20);
    due("leading zeros", gladBy("007 * 010"), 70);
    due("kept above", gladBy("999 * 999 * 999"), 1000000);
    due("kept below", gladBy("0 - 999 * 999 * 2"), -1000000);
    due("each one is kept", gladBy("999 * 999 * 999 - 1"), 999999);
    due("each one is kept", gladBy("999 * 999 + 999 * 999 - 999 * 999"), 1000000 - 998001);
    due("a great product", gladBy("999 * 999 * 2 * (999 * 999 * 2)"), 1000000);
    due("a great product below", gladBy("(0 - 999 * 999 * 2) * (999 * 999 * 2)"), -1000000);
    due("the later strikes", gladBy("1;glad : 2"), 2);
    due("and ahead of or", mayBy("1 = 1 or 1 = 1 and 1 = 2"), 1);
    due("[ ]", mayBy("[1 = 1 or 1 = 1] and 1 = 2"), 0);
    due("not is of one unit", mayBy("not 1 = 2 or 1 = 1"), 1);
    due("not is of one unit", mayBy("not 1 = 1 and 1 = 2"), 0);
    due("not of brackets", mayBy("not [1 = 1 and 1 = 2]"), 1);
    due("not not", mayBy("not not 1 = 1"), 1);
    due("<", mayBy("1 < 2"), 1);
    due("<", mayBy("2 < 2"), 0);
    due(">", mayBy("2 > 1"), 1);
    due(">", mayBy("2 > 2"), 0);
    due("=", mayBy("2 = 2"), 1);
    due("the later strikes", mayBy("1 = 2;may : 1 = 1"), 1);
  }

  private static void promise9() {
    promise = "9 play";
    RubatoDesk x = told(DESK);
    due("play", x.play(0, 0), 12);
    due("store", x.player(0, 0), 0);
    due("joy", x.player(0, 1), 12);
    due("once more", x.play(0, 0), 12);
    due("joy is added", x.player(0, 1), 24);
    due("no bars", x.play(0, 2), 0);
    due("calls that did some", x.count(8), 3);
    due("no player", x.play(3, 0), WHY1);
    due("no player", x.play(-1, 0), WHY1);
    due("no piece", x.play(0, 3), WHY1);
    due("no piece", x.play(0, -1), WHY1);
    due("they did none", x.count(8), 3);
    due("friday", x.friday(), 3);
    due("barred", x.play(0, 0), WHY2);
    due("no piece first", x.play(0, 3), WHY1);
    due("not barred", x.play(2, 0), 12);
    x = told("desk;piece up 5 up 5 up 5;player has 2;may : bar < 1 or draw > 2;glad : draw + 3;");
    due("breaks off", x.play(0, 0), 5);
    due("store then", x.player(0, 0), 0);
    due("joy till there", x.player(0, 1), 5);
    x = told("desk;piece up 1 up 1 up 1 up 1 up 1 up 1 up 1 up 1 up 1 up 1 up 1 up 1;player;player;"
        + "may : draw = 0;glad : 999 * 999 * 999 * (1 - who * 2);");
    due("above the joy", x.play(0, 0), 12000000);
    due("joy is kept", x.player(0, 1), 9999999);
    due("below the joy", x.play(1, 0), -12000000);
    due("joy is kept", x.player(1, 1), -9999999);
    due("best, too", x.perform(0, 0), 12000000);
    due("joy is kept", x.player(0, 1), 9999999);
    due("all joy", x.count(4), 0);
  }

  private static void promise10() {
    promise = "10 perform";
    RubatoDesk x = told("desk;piece up 1 up 1;player owes 19;player has 20;");
    due("as it comes, then not at all", x.comes(0, 0, 0), 1);
    due("best", x.perform(0, 0), 1);
    due("store", x.player(0, 0), -20);
    due("joy", x.player(0, 1), 1);
    x = told("desk;piece up 2 up 3;player owes 19;player has 20;");
    due("as it comes", x.comes(0, 0, 0), 2);
    due("best", x.perform(0, 0), 4);
    due("store", x.player(0, 0), -20);
    due("undo", x.undo(1), 0);
    due("no player", x.perform(2, 0), WHY1);
    due("no piece", x.perform(0, 1), WHY1);
    due("friday", x.friday(), 1);
    due("barred", x.perform(0, 0), WHY2);
    due("no piece first", x.perform(0, 1), WHY1);
    due("not barred", x.perform(1, 0), 10);
    x = told("desk;piece up 1;player owes 1;may : 1 = 2;");
    due("no row", x.perform(0, 0), WHY3);
    due("it did none", x.count(8), 0);
    x.friday();
    due("barred first", x.perform(0, 0), WHY2);
    due("any end", told("desk;piece up 9;player owes 18;").perform(0, 0), 18);
  }

  private static void promise11() {
    promise = "11 lend";
    RubatoDesk x = told("desk;player has 20;player owes 20;player;");
    due("lend", x.lend(0, 1, 40), -20);
    due("the other", x.player(1, 0), 20);
    due("one more", x.lend(0, 2, 1), WHY3);
    due("one more", x.lend(2, 1, 1), WHY3);
    due("lend", x.lend(1, 0, 5), 15);
    due("no ticks", x.lend(1, 0, 0), WHY1);
    due("no ticks", x.lend(1, 0, -5), WHY1);
    due("no such ticks", x.lend(1, 0, 41), WHY1);
    due("both one", x.lend(1, 1, 1), WHY1);
    due("no player", x.lend(3, 1, 1), WHY1);
    due("no player", x.lend(1, -1, 1), WHY1);
    due("friday", x.friday(), 1);
    due("one who is barred lends", x.lend(0, 2, 5), -20);
    due("calls", x.count(8), 4);
  }

  private static void promise12() {
    promise = "12 temper";
    RubatoDesk x = told("desk;piece up 1;player temper 7;glad : (temper - 5) * draw;");
    due("as it was", x.comes(0, 0, 10), 2);
    due("temper", x.temper(0, 4), 7);
    due("it tells", x.comes(0, 0, 10), -2);
    due("temper", x.temper(0, 9), 4);
    due("now", x.player(0, 2), 9);
    due("0", x.temper(0, 0), 9);
    due("no such", x.temper(0, 10), WHY1);
    due("no such", x.temper(0, -1), WHY1);
    due("no player", x.temper(1, 3), WHY1);
    due("calls", x.count(8), 3);
    due("undo", x.undo(2), 1);
    due("now", x.player(0, 2), 4);
  }

  private static void promise13() {
    promise = "13 friday";
    RubatoDesk x = told("desk;player owes 1;player;player has 1;player owes 20;player owes 3;");
    due("friday", x.friday(), 1 + 8 + 16);
    due("week", x.count(6), 1);
    due("lend", x.lend(2, 0, 1), 0);
    due("lend", x.lend(1, 2, 4), -4);
    due("barred still", x.count(5), 25);
    due("friday", x.friday(), 2 + 8 + 16);
    due("week", x.count(6), 2);
    due("player 0", x.player(0, 3), 0);
    due("undo", x.undo(1), 3);
    due("barred again", x.count(5), 25);
    due("week", x.count(6), 1);
  }

  private static void promise14() {
    promise = "14 undo";
    RubatoDesk x = told(DESK);
    for (int i = 0; i < 12; i++) x.temper(0, i % 10);
    due("ten at most", x.count(8), 10);
    due("0", x.undo(0), BAD);
    due("11", x.undo(11), BAD);
    due("-1", x.undo(-1), BAD);
    due("undo", x.undo(3), 7);
    due("temper", x.player(0, 2), 8);
    due("more than can be", x.undo(8), BAD);
    due("undo", x.undo(7), 0);
    due("the eldest are forgotten", x.player(0, 2), 1);
    due("none", x.undo(1), BAD);
    x.play(0, 0);
    x.lend(2, 1, 5);
    x.temper(1, 6);
    x.friday();
    due("undo all", x.undo(4), 0);
    due("store", x.player(0, 0), 2);
    due("store", x.player(1, 0), -1);
    due("joy", x.count(4), 0);
    due("temper", x.player(1, 2), 0);
    due("barred", x.count(5), 0);
    due("week", x.count(6), 0);
    for (int i = 0; i < 12; i++) x.friday();
    due("ten", x.undo(10), 0);
    due("week", x.count(6), 2);
  }

  private static void promises15And16() {
    promise = "15 judge";
    RubatoDesk x = told(DESK);
    due("missing", x.judge(0, 0), MISSING);
    due("no tray", x.judge(4, 0), NO_SUCH);
    due("no tray", x.judge(-1, 0), NO_SUCH);
    due("no what, first", x.judge(0, 4), NO_SUCH);
    due("no what", x.judge(0, -1), NO_SUCH);
    fill(x, 0, 3);
    due("none told", x.judge(0, 0), NONE);
    due("none told", x.judge(0, 1), 0);
    due("none told", x.judge(0, 2), 21);
    due("none told", x.judge(0, 3), 0);
    // play, best, lend 2 from 2 to 0, a friday on which 1 owes, then it is barred
    fill(x, 0, 2, 0, 101, 3002, -1, 10, 0);
    due("place", x.judge(0, 0), 4);
    due("why", x.judge(0, 1), 2);
    due("stores", x.judge(0, 2), (0 + 4 + 2) - 1 + 18);
    due("joy", x.judge(0, 3), 12 + 8);
    due("as if", x.count(3), 21);
    due("as if", x.count(4), 0);
    due("as if", x.count(8), 0);
    promise = "16 does";
    due("missing", x.does(1), MISSING);
    due("no tray", x.does(4), NO_SUCH);
    due("no tray", x.does(-1), NO_SUCH);
    due("does", x.does(0), 4);
    due("store", x.player(0, 0), 6);
    due("joy", x.player(0, 1), 20);
    due("week", x.count(6), 1);
    due("barred", x.count(5), 2);
    due("one call", x.count(8), 1);
    due("undone as a whole", x.undo(1), 0);
    due("store", x.count(3), 21);
    due("week", x.count(6), 0);
    fill(x, 1, 0, -2, 0);
    due("the first can't be", x.does(1), 0);
    due("it did none", x.count(8), 0);
    long[][] whys = {{100, 0}, {99, 1}, {200, 1}, {999, 1}, {10000, 1}, {-2, 1}, {Long.MIN_VALUE, 1}, {Long.MAX_VALUE, 1}, {3, 1}, {30, 1},
        {103, 1}, {130, 1}, {12, 0}, {112, 0}, {22, 0}, {1000, 1}, {1101, 0}, {1123, 3}, {1141, 1}, {1001, 1}, {4001, 1}, {1301, 1},
        {3140, 3}, {3121, 0}, {3122, 3}, {2201, 3}, {9999, 1}, {-1, 0}, {4294967296L, 1}, {4294967295L, 1}};
    promise = "15 deeds";
    for (long[] w : whys) {
      fill(x, 3, 3, w[0]);
      due("why of " + w[0], x.judge(3, 1), w[1]);
      due("place of " + w[0], x.judge(3, 0), w[1] == 0 ? NONE : 0);
    }
    x = told("desk;piece up 1;player;may : 1 = 2;");
    fill(x, 3, 1, 0, 100);
    due("no row", x.judge(3, 1), 3);
    due("place", x.judge(3, 0), 1);
  }

  /** The draws of a term by the document's words, in longs. */
  private static final class Draws {
    long x;
    Draws(int seed) { x = seed & 0xFFFFFFFFL; }
    int of(int modulo) { x = (x * 1103515245L + 12345L) & 0xFFFFFFFFL; return (int) ((x >> 16) % modulo); }
  }

  private static void promise17() {
    promise = "17 term";
    RubatoDesk x = told(DESK), y = told(DESK);
    due("0 times", x.term(1, 0), BAD);
    due("41 times", x.term(1, 41), BAD);
    due("-1 times", x.term(1, -1), BAD);
    int[] seeds = {0, 1, -1, 77, 12345, Integer.MIN_VALUE, Integer.MAX_VALUE};
    for (int seed : seeds) {
      Draws d = new Draws(seed);
      int done = 0;
      for (int i = 0; i < 40; i++) {
        int sort = d.of(5), a = sort == 0 ? 0 : d.of(5), b = sort == 0 ? 0 : d.of(sort == 4 ? 10 : 5);
        long got = sort == 0 ? y.friday() : sort == 1 ? y.play(a, b) : sort == 2 ? y.perform(a, b)
            : sort == 3 ? y.lend(a, b, 1 + d.of(9)) : y.temper(a, b);
        if (got > -90000000) done++;
      }
      int ahead = x.count(8);
      due("term " + seed, x.term(seed, 40), done);
      due("one call", x.count(8), Math.min(10, ahead + 1));
      for (int p = 0; p < 3; p++) for (int w = 0; w < 4; w++) due("player", x.player(p, w), y.player(p, w));
      due("week", x.count(6), y.count(6));
    }
    x = new RubatoDesk();
    int none = 0;
    while (new Draws(none).of(5) == 0) none++;
    due("one that can't be", x.term(none, 1), 0);
    due("it did none", x.count(8), 0);
  }

  private static void promise18() {
    promise = "18 comes";
    RubatoDesk x = told("desk;piece up 3 down 1 up 0 up 2;piece;player has 2;player owes 20;player has 20;");
    due("gladness", x.comes(0, 0, 0), 6 + 2 + 0 + 4);
    due("store", x.comes(0, 0, 1), 2 - 2 + 2 + 2 - 2);
    due("of like ones the least", x.comes(0, 0, 12), -2);
    due("draw", x.comes(0, 0, 13), 2);
    due("none such", x.comes(0, 0, 14), 9);
    due("none such", x.comes(0, 0, 21), 9);
    due("to the end", x.comes(0, 0, 2), NONE);
    due("nothing more to draw", x.comes(1, 0, 10), 0);
    due("the store's bound above", x.comes(2, 0, 11), -2);
    due("the store's bound above", x.comes(2, 0, 12), 0);
    due("no bars", x.comes(0, 1, 0), 0);
    due("no bars", x.comes(0, 1, 1), 2);
    due("no bars", x.comes(0, 1, 2), NONE);
    due("no bars", x.comes(0, 1, 10), 9);
    for (int what : new int[] {-1, 3, 9, 22}) due("what " + what, x.comes(0, 0, what), NO_SUCH);
    due("no player", x.comes(3, 0, 0), NO_SUCH);
    due("no piece", x.comes(0, 2, 0), NO_SUCH);
    x = told("desk;piece up 1 up 1 up 1;player has 1;may : not last = 2 and draw > 0 - 1;");
    due("breaks off", x.comes(0, 0, 2), 1);
    due("gladness till there", x.comes(0, 0, 0), 2);
    due("store then", x.comes(0, 0, 1), -1);
    due("played", x.comes(0, 0, 10), 2);
    due("not played", x.comes(0, 0, 11), 9);
    due("last is 0 at first, store is ahead",
        told("desk;piece up 1 up 1;player has 5;may : bar = 0 and last = 0 and store = 5 and draw = 1 or store = 4 and last = 1;").comes(0, 0, 2), NONE);
  }

  private static void promise19() {
    promise = "19 best";
    RubatoDesk x = told(DESK);
    due("gladness", x.best(0, 0, 2, 0), 8);
    due("store", x.best(0, 0, 2, 1), 2);
    due("draws", x.best(0, 0, 2, 10), 2);
    due("draws", x.best(0, 0, 2, 11), -2);
    due("draws", x.best(0, 0, 2, 12), 0);
    due("none such", x.best(0, 0, 2, 13), 9);
    due("none such", x.best(0, 0, 2, 21), 9);
    due("the greatest goal", x.best(0, 0, 8, 0), -8);
    due("no row", x.best(0, 0, 9, 0), NO_ROW);
    due("no row", x.best(0, 0, 9, 21), NO_ROW);
    due("goal", x.best(0, 0, 21, 0), BAD);
    due("goal", x.best(0, 0, -21, 0), BAD);
    for (int what : new int[] {-1, 2, 9, 22}) due("what " + what, x.best(0, 0, 21, what), NO_SUCH);
    due("no player", x.best(3, 0, 0, 0), NO_SUCH);
    due("no piece", x.best(0, 3, 0, 0), NO_SUCH);
    due("no bars", x.best(0, 2, 2, 0), 0);
    due("no bars, no row", x.best(0, 2, 3, 0), NO_ROW);
    // two rows of like gladness: -2 2 and 2 -2 and all between
    x = told("desk;piece up 1 up 1;player;");
    due("gladness", x.best(0, 0, 0, 0), 0);
    due("the first", x.best(0, 0, 0, 10), -2);
    due("the first", x.best(0, 0, 0, 11), 2);
    due("not the greedy one", told("desk;piece up 1 up 5;player owes 18;").best(0, 0, -20, 0), 10);
    due("barred is no matter", barredBest(), 12);
  }

  private static long barredBest() {
    RubatoDesk x = told("desk;piece up 3 up 3;player owes 1;");
    x.friday();
    return x.best(0, 0, -20, 0);
  }

  private static void promises20And21() {
    promise = "20 rows";
    RubatoDesk x = told(DESK);
    due("rows", x.rows(0, 0, 2), 19);
    due("rows", x.rows(0, 0, 8), 1);
    due("rows", x.rows(0, 0, -4), 1);
    due("none", x.rows(0, 0, 9), 0);
    due("at the bound", x.rows(2, 1, 20), 3);
    due("no bars", x.rows(0, 2, 2), 1);
    due("no bars", x.rows(0, 2, 1), 0);
    due("end", x.rows(0, 0, 21), BAD);
    due("end", x.rows(0, 0, -21), BAD);
    due("no player first", x.rows(3, 0, 21), NO_SUCH);
    due("no piece", x.rows(0, -1, 0), NO_SUCH);
    promise = "21 thriftiest";
    due("greatest", x.thriftiest(0, 0), 8);
    due("bound", x.thriftiest(2, 0), 20);
    due("no bars", x.thriftiest(1, 2), -1);
    due("no player", x.thriftiest(3, 0), NO_SUCH);
    due("no piece", x.thriftiest(0, 3), NO_SUCH);
    x = told("desk;piece up 1 up 1;player has 5;may : draw > 0 and not last = draw;");
    due("by the law", x.thriftiest(0, 0), 2);
    due("no row", told("desk;piece up 1 up 1;player has 5;may : last > 2 or bar = 0;").thriftiest(0, 0), NO_ROW);
  }

  private static void promises22And23() {
    promise = "22 least";
    RubatoDesk x = told(DESK);
    due("least", x.least(0, 0, 0, 12), 2);
    due("less glad", x.least(0, 0, 0, 11), 2);
    due("less glad", x.least(0, 0, 0, 10), 1);
    due("none", x.least(0, 0, 0, 13), NO_ROW);
    due("any gladness", x.least(0, 0, 0, Integer.MIN_VALUE), -6);
    due("any gladness, any end", x.least(0, 0, -20, Integer.MIN_VALUE), -20);
    due("too glad", x.least(0, 0, -20, Integer.MAX_VALUE), NO_ROW);
    due("goal", x.least(0, 0, 21, 0), BAD);
    due("goal", x.least(0, 0, -21, 0), BAD);
    due("no player first", x.least(3, 0, 21, 0), NO_SUCH);
    due("no piece", x.least(0, 3, 0, 0), NO_SUCH);
    due("no bars", x.least(0, 2, 7, 0), 7);
    due("20", told("desk;piece up 1;player;may : store = 20;").least(0, 0, -20, 0), 20);
    due("no rows at all", told("desk;piece up 1;player;may : 1 = 2;").least(0, 0, -20, Integer.MIN_VALUE), NO_ROW);
    promise = "23 squarest";
    due("squarest", x.squarest(0, 0), 4);
    due("of like ones the least", told("desk;piece up 3;player;").squarest(0, 0), -2);
    due("no bars", x.squarest(0, 2), 2);
    due("the gladdest", told("desk;piece up 4;player;").squarest(0, 0), -2);
    due("the thriftiest", told("desk;piece up 2;player;").squarest(0, 0), 2);
    due("a goal that no row ends at", told("desk;piece up 1 up 1;player;may : draw = 2 or draw = 0 - 2;glad : 0 - draw * store;").squarest(0, 0), 4);
    due("no player", x.squarest(3, 0), NO_SUCH);
    due("no piece", x.squarest(0, 3), NO_SUCH);
    due("no rows", told("desk;piece up 1;player;may : 1 = 2;").squarest(0, 0), NO_ROW);
  }

  private static void promise24() {
    promise = "24 order";
    RubatoDesk x = told(DESK);
    due("gladness", x.order(0, 7, 0, 0), 20);
    due("first of like ones", x.order(0, 7, 0, 10), 0);
    due("first of like ones", x.order(0, 7, 0, 11), 1);
    due("first of like ones", x.order(0, 7, 0, 12), 2);
    due("not so many", x.order(0, 7, 0, 13), NONE);
    due("one", x.order(0, 2, 6, 10), 1);
    due("one", x.order(0, 2, 7, 10), NO_ROW);
    due("empty", x.order(0, 0, 0, 0), BAD);
    due("others", x.order(0, 8, 0, 0), BAD);
    due("others", x.order(0, 9, 0, 0), BAD);
    due("others", x.order(0, -1, 0, 0), BAD);
    due("others", x.order(0, Integer.MIN_VALUE, 0, 0), BAD);
    due("goal", x.order(0, 1, 21, 0), BAD);
    due("goal", x.order(0, 1, -21, 0), BAD);
    for (int what : new int[] {-1, 1, 9, 14}) due("what " + what, x.order(0, 0, 0, what), NO_SUCH);
    due("no player", x.order(3, 1, 0, 0), NO_SUCH);
    // the store is full: the piece that spends must come first
    x = told("desk;piece down 5 down 5;piece up 1 up 1;piece;player has 20;");
    due("gladness", x.order(0, 3, -20, 0), 24);
    due("the second first", x.order(0, 3, -20, 10), 1);
    due("then the first", x.order(0, 3, -20, 11), 0);
    due("all of them", x.order(0, 7, -20, 10), 1);
    due("all of them", x.order(0, 7, -20, 11), 0);
    due("all of them", x.order(0, 7, -20, 12), 2);
    due("last is 0 at each piece's first bar",
        told("desk;piece up 1;piece up 1;player;may : last = 0 and draw = 1;").order(0, 3, -20, 0), 2);
    due("a row is not to be broken off",
        told("desk;piece up 1;piece up 1;player;may : piece = 0;").order(0, 3, -20, 0), NO_ROW);
    due("four", told("desk;piece;piece;piece;piece;player;").order(0, 15, 0, 13), 3);
  }

  private static void promise25() {
    promise = "25 mostPieces";
    RubatoDesk x = told("desk;piece up 1;piece up 1;piece up 1;player has 2;may : [piece = 1 or draw = 1] and [piece = 2 or store > 0] and draw > 0;");
    due("most", x.mostPieces(0, -20), 7);
    due("the least set of like ones", x.mostPieces(0, 0), 3);
    due("one", x.mostPieces(0, 1), 1);
    due("none", x.mostPieces(0, 2), 0);
    due("goal", x.mostPieces(0, 21), BAD);
    due("goal", x.mostPieces(0, -21), BAD);
    due("no player first", x.mostPieces(1, 21), NO_SUCH);
    due("no pieces", told("desk;player;").mostPieces(0, 0), 0);
    // alone each of 0 and 1 can't be ahead of the other one's end: only one order is right
    x = told("desk;piece up 1;piece up 1;player;may : piece = 1 and draw = 2 or piece = 0 and store < 0 and draw = 0;");
    due("only the other way round", x.mostPieces(0, -20), 3);
    due("only the other way round", x.order(0, 3, -20, 10), 1);
    due("alone", x.order(0, 1, -20, 10), NO_ROW);
    x = told("desk;piece up 1;piece up 1;player owes 17;may : draw > 0 and not draw = 1 + piece;");
    due("to the very bound", x.mostPieces(0, -20), 3);
    due("not beyond", x.mostPieces(0, -19), 1);
  }

  private static void promise26() {
    promise = "26 gladdest";
    RubatoDesk x = told(DESK);
    due("the first of like ones", x.gladdest(0), 0);
    due("by want", told("desk;piece up 1;player;player has 1;player has 9;player has 3;").gladdest(0), 2);
    due("who owes has none", told("desk;piece;player owes 1;player;").gladdest(0), 1);
    due("below 0", told("desk;piece down 1;player has 19;player has 20 temper 1;glad : 0 - 5 - temper;").gladdest(0), 0);
    due("nobody", told("desk;piece;player owes 1;").gladdest(0), NONE);
    due("no players", told("desk;piece;").gladdest(0), NONE);
    due("no piece", x.gladdest(3), NO_SUCH);
    due("no piece", x.gladdest(-1), NO_SUCH);
  }

  private static void promise27() {
    promise = "27 lends";
    RubatoDesk x = told("desk;piece up 1;piece up 3 up 3;piece;player has 3;player;player owes 20;player has 20;");
    due("both gladdest", x.lends(0, 0, 1, 1), 4);
    due("without a loss", x.lends(0, 2, 1, 1), 3);
    due("the fewest", x.lends(0, 2, 1, 0), 2);
    due("to owe and make it up", x.lends(1, 0, 0, 1), 1);
    due("0", x.lends(0, 1, 1, 0), 0);
    due("who owes", x.lends(3, 2, 2, 2), 20);
    due("as much as may be", x.lends(2, 2, 1, 2), NONE);
    due("the other is full", x.lends(0, 0, 3, 0), 0);
    due("none", x.lends(1, 2, 2, 2), NONE);
    due("both one", x.lends(0, 0, 0, 1), NO_SUCH);
    due("no player", x.lends(4, 0, 0, 0), NO_SUCH);
    due("no player", x.lends(0, 0, -1, 0), NO_SUCH);
    due("no piece", x.lends(0, 3, 1, 0), NO_SUCH);
    due("no piece", x.lends(0, 0, 1, 3), NO_SUCH);
    due("20", told("desk;piece;player has 20;player owes 20;may : 1 = 1;").lends(0, 0, 1, 0), 20);
    x = told("desk;piece up 1 up 1 up 1 up 1 up 1 up 1 up 1 up 1 up 1 up 1 up 1 up 1;piece up 1;player has 20;player owes 20;glad : who * store;");
    due("40", x.lends(0, 0, 1, 1), 40);
  }

  private static void promise28() {
    promise = "28 reply";
    RubatoDesk x = told(DESK);
    due("none", x.reply(0, 1, 0, 0), NO_ROW);
    due("gladness", x.reply(1, 0, 0, 0), 8);
    due("store", x.reply(1, 0, 0, 1), 2);
    due("draw", x.reply(1, 0, 0, 10), 2);
    due("draw", x.reply(1, 0, 0, 11), -2);
    due("draw", x.reply(1, 0, 0, 12), 0);
    due("none such", x.reply(1, 0, 0, 13), 9);
    due("none such", x.reply(1, 0, 0, 21), 9);
    due("the first one has none", x.reply(1, 0, 2, 0), NO_ROW);
    due("no bars", x.reply(0, 2, 2, 0), 0);
    due("no bars", x.reply(0, 2, 2, 1), 20);
    due("both one", x.reply(1, 1, 0, 0), NO_SUCH);
    due("no player", x.reply(3, 0, 0, 0), NO_SUCH);
    due("no player", x.reply(0, 3, 0, 0), NO_SUCH);
    due("no piece", x.reply(0, 1, 3, 0), NO_SUCH);
    for (int what : new int[] {-1, 2, 9, 22}) due("what " + what, x.reply(0, 1, 0, what), NO_SUCH);
    x = told("desk;piece up 1 up 0;player has 9;player has 9;glad : (1 - who * 2) * want * draw;");
    due("against its will", x.reply(0, 1, 0, 0), -1);
    due("one from it", x.reply(0, 1, 0, 10), 1);
    due("of like ones the first", x.reply(0, 1, 0, 11), -2);
    due("and back", x.reply(1, 0, 0, 10), -1);
  }

  private static void promises29And30() {
    promise = "29 heard";
    RubatoDesk x = told(DESK);
    due("no tray", x.heard(4, 0, 0, 0), NO_SUCH);
    due("no tray", x.heard(-1, 0, 0, 0), NO_SUCH);
    due("missing", x.heard(0, 0, 0, 0), MISSING);
    due("no player ahead of missing", x.heard(0, 3, 0, 0), NO_SUCH);
    due("no piece ahead of missing", x.heard(0, 0, 3, 0), NO_SUCH);
    fill(x, 0, 0, 2, 9, 9);
    due("any", x.heard(0, 0, 0, 99), 25);
    due("an end", x.heard(0, 0, 0, 2), 3);
    due("no such end", x.heard(0, 0, 0, 20), 0);
    due("end", x.heard(0, 0, 0, 21), BAD);
    due("end", x.heard(0, 0, 0, -21), BAD);
    due("end", x.heard(0, 0, 0, 98), BAD);
    due("too few bars, first", x.heard(0, 0, 1, 21), TOO_MANY);
    due("no bars", x.heard(0, 0, 2, 0), TOO_MANY);
    fill(x, 1, 1);
    due("too many bars", x.heard(1, 0, 0, 0), TOO_MANY);
    due("none of none", x.heard(1, 0, 2, 99), 1);
    due("none of none", x.heard(1, 0, 2, 2), 1);
    due("none of none", x.heard(1, 0, 2, 1), 0);
    for (long bad : new long[] {3, -3, 8, 10, 4294967296L + 9, 4294967296L}) {
      fill(x, 2, 3, 0, 0, bad);
      due("a number " + bad, x.heard(2, 0, 0, 99), BAD);
      due("a number " + bad, x.sure(2, 0, 0, 99, 0), BAD);
      due("a number " + bad, x.tempers(2, 0, 0), BAD);
      due("a number " + bad, x.next(2, 0, 0), BAD);
    }
    fill(x, 2, 2, -2, 2, 1);
    due("just one", x.heard(2, 0, 0, 99), 1);
    due("just one", x.heard(2, 0, 0, 1), 1);
    promise = "30 sure";
    due("heard", x.sure(0, 0, 0, 99, 0), 2);
    due("not sure", x.sure(0, 0, 0, 99, 1), 9);
    due("no rows", x.sure(0, 0, 0, 20, 0), 9);
    due("by the end", x.sure(0, 0, 0, 4, 1), -2);
    due("by the end", x.sure(0, 0, 0, 4, 2), -2);
    due("no bar", x.sure(0, 0, 0, 4, 3), NO_NUMBER);
    due("no bar", x.sure(0, 0, 0, 4, -1), NO_NUMBER);
    due("end first", x.sure(0, 0, 0, 21, 3), BAD);
    due("too few first", x.sure(0, 0, 1, 21, 3), TOO_MANY);
    due("missing", x.sure(3, 0, 0, 0, 0), MISSING);
    due("no player", x.sure(3, 3, 0, 0, 0), NO_SUCH);
    due("no bars", x.sure(1, 0, 2, 99, 0), NO_NUMBER);
  }

  private static void promises31And32() {
    promise = "31 tempers";
    RubatoDesk x = told("desk;piece up 1 up 1;piece up 1;piece down 1;piece;player has 3 temper 9;"
        + "glad : (temper - 4) * draw * (1 - piece);may : not [temper = 8 and bar = 1] and [piece < 2 or draw = temper - 2 or draw = 0 and temper > 4];");
    fill(x, 0, 1, 2, 9);
    due("more than 4, but 8 breaks off", x.tempers(0, 0, 0), 32 + 64 + 128 + 512);
    fill(x, 0, 1, 9, -2);
    due("4 and less", x.tempers(0, 0, 0), 31);
    fill(x, 0, 1, 9, 9);
    due("all but 8", x.tempers(0, 0, 0), 1023 - 256);
    fill(x, 0, 1, 1, 9);
    due("none", x.tempers(0, 0, 0), 0);
    due("the temper stays", x.player(0, 2), 9);
    due("missing", x.tempers(1, 0, 0), MISSING);
    due("no tray", x.tempers(4, 0, 0), NO_SUCH);
    due("no player", x.tempers(1, 1, 0), NO_SUCH);
    due("no piece", x.tempers(1, 0, 4), NO_SUCH);
    due("too many", x.tempers(0, 0, 1), TOO_MANY);
    promise = "32 next";
    due("no tempers", x.next(0, 0, 0), NONE);
    fill(x, 0, 1, 9, -2);
    due("the one that tells them apart", x.next(0, 0, 0), 2);
    fill(x, 0, 1, 2, 9);
    due("none tells them apart: the first", x.next(0, 0, 0), 1);
    fill(x, 1, 1);
    due("as they all are", x.tempers(1, 0, 3), 1023);
    due("the least number of alike ones", x.next(1, 0, 3), 0);
    due("missing", x.next(2, 0, 0), MISSING);
    due("no tray", x.next(-1, 0, 0), NO_SUCH);
    due("no player", x.next(0, 1, 0), NO_SUCH);
    due("too many", x.next(0, 0, 1), TOO_MANY);
    RubatoDesk y = told("desk;piece;player;");
    fill(y, 0, 1);
    due("no other pieces", y.next(0, 0, 0), NONE);
    // where it breaks off: the store as then
    y = told("desk;piece;piece up 1;piece up 1 up 1;player;glad : (temper - 4) * draw;may : bar = 0;");
    fill(y, 0, 1);
    due("like ones", y.next(0, 0, 0), 1);
  }

  private static void promise33() {
    promise = "33 chance";
    RubatoDesk x = told(DESK);
    due("above", x.chance(0, 0, 0, 0), 4);
    due("below", x.chance(0, 0, 0, 1), 5);
    due("sure", x.chance(0, 0, -1, 0), 1);
    due("sure", x.chance(0, 0, -1, 1), 1);
    due("never", x.chance(0, 0, 1, 0), 0);
    due("never", x.chance(0, 0, 1, 1), 1);
    due("both slip or one", x.chance(0, 1, 5, 0), 24);
    due("both slip or one", x.chance(0, 1, 5, 1), 25);
    due("no bars", x.chance(0, 2, 2, 0), 1);
    due("no bars", x.chance(0, 2, 3, 0), 0);
    due("no bars", x.chance(0, 2, 3, 1), 1);
    due("goal", x.chance(0, 0, 21, 0), BAD);
    due("goal", x.chance(0, 0, -21, 0), BAD);
    due("what first", x.chance(0, 0, 21, 2), NO_SUCH);
    due("what", x.chance(0, 0, 0, -1), NO_SUCH);
    due("no player", x.chance(3, 0, 0, 0), NO_SUCH);
    due("no piece", x.chance(0, 3, 0, 0), NO_SUCH);
    due("always slips", told("desk;piece down 1 down 1;player;slips 10;").chance(0, 0, 2, 0), 1);
    due("always slips", told("desk;piece down 1 down 1;player;slips 10;").chance(0, 0, 3, 0), 0);
    due("never slips", told("desk;piece down 1 down 1;player;").chance(0, 0, 4, 0), 1);
    x = told("desk;piece down 1 down 1;player;slips 3;may : not draw = 0 - 1;");
    due("a slip that may not be", x.chance(0, 0, 4, 0), 1);
    x = told("desk;piece up 1;player owes 20;slips 3;");
    due("a slip beyond the store", x.chance(0, 0, -20, 0), 1);
    x = told("desk;piece down 1 down 1;player;slips 3;may : last < 0 - 1 or bar = 0;");
    due("a slip, then it breaks off", x.chance(0, 0, -20, 0), 7);
    due("a slip, then it breaks off", x.chance(0, 0, -20, 1), 10);
    x = told("desk;piece down 1 down 1 down 1 down 1 down 1 down 1 down 1 down 1 down 1 down 1 down 1 down 1;player owes 20;slips 1;");
    due("never a slip", x.chance(0, 0, 4, 0), 282429536481L);
    due("never a slip", x.chance(0, 0, 4, 1), 1000000000000L);
    due("once at most", x.chance(0, 0, 3, 0), 659002251789L);
    due("once at most", x.chance(0, 0, 3, 1), 1000000000000L);
  }

  private static void promise34() {
    promise = "34 putBy";
    RubatoDesk x = told(DESK);
    due("80", x.putBy(0, 0, 80), 2);
    due("81", x.putBy(0, 0, 81), 3);
    due("100", x.putBy(0, 0, 100), 3);
    due("0", x.putBy(0, 0, 0), -20);
    due("a slip, two", x.putBy(1, 1, 96), -3);
    due("a slip, two", x.putBy(1, 1, 97), -2);
    due("no bars", x.putBy(0, 2, 100), 0);
    due("m", x.putBy(0, 0, 101), BAD);
    due("m", x.putBy(0, 0, -1), BAD);
    due("no player first", x.putBy(3, 0, 101), NO_SUCH);
    due("no piece", x.putBy(0, 3, 0), NO_SUCH);
    x = told("desk;piece up 1;player;may : 1 = 2;");
    due("none", x.putBy(0, 0, 1), NO_ROW);
    due("0 is always", x.putBy(0, 0, 0), -20);
    due("20", told("desk;piece up 1;player;may : store = 20;").putBy(0, 0, 100), 20);
  }

  private static void promises35And36() {
    promise = "35 numbers";
    RubatoDesk x = new RubatoDesk();
    due("no tray", x.numbers(4, 0, 1), NO_SUCH);
    due("no tray", x.numbers(-1, 0, 1), NO_SUCH);
    due("no sort first", x.numbers(0, 4, 41), NO_SUCH);
    due("no sort", x.numbers(0, -1, 1), NO_SUCH);
    due("n", x.numbers(0, 0, 41), BAD);
    due("n", x.numbers(0, 0, -1), BAD);
    due("still missing", x.write(0, 0, 1), MISSING);
    due("40", x.numbers(0, 3, 40), 0);
    due("the last", x.write(0, 39, 7), 7);
    due("n, the tray stays", x.numbers(0, 0, 41), BAD);
    due("the tray stays", x.write(0, 39, Long.MIN_VALUE), Long.MIN_VALUE);
    due("0", x.numbers(0, 0, 0), 0);
    due("not missing, none there", x.write(0, 0, 1), NO_NUMBER);
    x = told("desk;piece up 1;player;");
    fill(x, 0, 3, 9);
    due("again", x.numbers(0, 2, 1), 0);
    due("all 0", x.heard(0, 0, 0, 0), 1);
    due("all 0", x.heard(0, 0, 0, 1), 0);
    promise = "36 write";
    long[][] cuts = {{0, 127, 127}, {0, 128, -128}, {0, 255, -1}, {0, 256, 0}, {0, -129, 127}, {1, 32767, 32767}, {1, 32768, -32768},
        {1, 65535, -1}, {2, 2147483647L, 2147483647L}, {2, 2147483648L, -2147483648L}, {2, 4294967295L, -1}, {3, Long.MAX_VALUE, Long.MAX_VALUE},
        {3, Long.MIN_VALUE, Long.MIN_VALUE}, {0, Long.MIN_VALUE, 0}, {1, -1, -1}};
    for (long[] c : cuts) {
      x.numbers(1, (int) c[0], 2);
      due("write " + c[1], x.write(1, 1, c[1]), c[2]);
    }
    due("no tray", x.write(4, 0, 1), NO_SUCH);
    due("no tray", x.write(-1, 0, 1), NO_SUCH);
    due("missing", x.write(3, 0, 1), MISSING);
    due("no number", x.write(1, 2, 1), NO_NUMBER);
    due("no number", x.write(1, -1, 1), NO_NUMBER);
  }

  private static void promise37() {
    promise = "37 lists";
    RubatoDesk x = told(DESK);
    due("no tray", x.lists(4, 0, 0, 0), NO_SUCH);
    due("no player ahead of missing", x.lists(0, 3, 0, 0), NO_SUCH);
    due("no piece ahead of missing", x.lists(0, 0, 3, 0), NO_SUCH);
    due("missing ahead of the goal", x.lists(0, 0, 0, 21), MISSING);
    fill(x, 0, 0, 5, 6, 7, 8);
    due("goal", x.lists(0, 0, 0, 21), BAD);
    due("goal", x.lists(0, 0, 0, -21), BAD);
    due("none", x.lists(0, 0, 0, 9), NOT_NOW);
    due("all", x.lists(0, 0, 0, 2), 3);
    due("the rest stays", told4(x), 8);
    fill(x, 1, 3, 5, 6);
    due("as far as it has places", x.lists(1, 0, 0, 2), 2);
    due("2 -2", x.heard(1, 0, 1, 99), 1);
    due("2 -2", x.sure(1, 0, 1, 99, 0), 2);
    due("2 -2", x.sure(1, 0, 1, 99, 1), -2);
    due("no bars", x.lists(1, 0, 2, 2), 0);
    fill(x, 1, 0);
    due("no places", x.lists(1, 0, 0, 2), 0);
    fill(x, 2, 0, 4, 4, 4);
    due("a row of three", x.lists(2, 0, 0, 8), 3);
    due("all hurried", x.heard(2, 0, 0, 8), 1);
  }

  /** What the fourth number of tray 0 is, told by the deed that it tells. */
  private static long told4(RubatoDesk x) {
    due("a deed", x.write(0, 0, -1), -1);
    due("a deed", x.write(0, 1, -1), -1);
    due("a deed", x.write(0, 2, -1), -1);
    return x.judge(0, 0) == 3 && x.judge(0, 1) == 1 ? 8 : 0;
  }

  private static void promises38And39() {
    promise = "38 image";
    RubatoDesk x = told(DESK);
    due("no image", x.image(2), NO_SUCH);
    due("no image", x.image(-1), NO_SUCH);
    x.play(0, 0);
    x.friday();
    x.temper(1, 5);
    due("image", x.image(0), 0);
    due("undo stays", x.count(8), 3);
    promise = "39 restore";
    due("no image", x.restore(2), NO_SUCH);
    due("no image", x.restore(-1), NO_SUCH);
    due("none made", x.restore(1), NOT_NOW);
    due("it stays", x.count(8), 3);
    x.undo(3);
    fill(x, 0, 3, 77);
    for (int i = 0; i < 9; i++) {
      due("other desks", tell(x, "desk;piece up " + i + ";player has 9;slips 1;glad : 5;may : draw > 1;"), 6);
      due("wants", x.wants(0, 0), i);
    }
    due("the other image", x.image(1), 0);
    feedText(x, "desk;slips 11;");
    due("a fault", x.desk(14), FAULT - 3);
    feedText(x, "desk;");
    due("restore", x.restore(0), 0);
    due("lines", x.count(10), 8);
    due("pieces", x.count(0), 3);
    due("store", x.player(0, 0), 0);
    due("joy", x.player(0, 1), 12);
    due("temper", x.player(1, 2), 5);
    due("barred", x.count(5), 2);
    due("week", x.count(6), 1);
    due("slips", x.count(7), 2);
    due("nothing can be undone", x.count(8), 0);
    due("nothing can be undone", x.undo(1), BAD);
    due("the laws", x.glad(0, 0, 0, 2, 0), 6);
    due("wants", x.wants(0, 0), 3);
    due("the tape stays", x.count(9), 20);
    due("the fault stays", x.fault(0), 3);
    due("the trays stay", x.write(0, 0, 3), 3);
    due("deeds", x.play(0, 0), 12);
    due("undo", x.undo(1), 0);
    due("the other one", x.restore(1), 0);
    due("its law", x.best(0, 0, -20, 0), 5);
    due("its law", x.rows(0, 0, 7), 1);
    due("its law", x.rows(0, 0, 8), 0);
    due("once more", x.restore(0), 0);
    due("as it was", x.player(0, 1), 12);
    due("another desk", tell(x, "desk;"), 1);
    due("made anew", x.image(0), 0);
    due("restore", x.restore(1), 0);
    due("restore", x.restore(0), 0);
    due("lines", x.count(10), 1);
    x = new RubatoDesk();
    due("an image of nothing", x.image(0), 0);
    due("desk", tell(x, DESK), 8);
    due("restore", x.restore(0), 0);
    due("nothing", x.count(1), 0);
    due("nothing", x.count(10), 0);
  }

  private static void promise40() {
    promise = "40 count";
    RubatoDesk x = told(DESK);
    x.play(0, 0);
    x.play(1, 1);
    x.friday();
    x.lend(2, 1, 1);
    x.lend(1, 0, 20);
    x.friday();
    x.feed(0, 0, 0, 0, 0);
    long[] due = {3, 3, 5, 0 + 3 + 20, 20, 2, 2, 2, 6, 20, 8};
    for (int what = 0; what < due.length; what++) due("count(" + what + ")", x.count(what), due[what]);
    for (int what : new int[] {-1, 11, Integer.MIN_VALUE, Integer.MAX_VALUE}) due("count(" + what + ")", x.count(what), NONE);
  }

  private static void longPieces() {
    promise = "20, 24 twelve bars";
    String bars = " up 9 down 9 up 9 down 9 up 9 down 9 up 9 down 9 up 9 down 9 up 9 down 9";
    RubatoDesk x = told("desk;piece" + bars + ";piece" + bars + ";piece" + bars + ";piece" + bars + ";player;player owes 20;glad : draw * want + last * store * 0;");
    due("all of 12 bars", x.count(2), 48);
    long[] ways = {1};
    for (int bar = 0; bar < 12; bar++) {
      long[] more = new long[ways.length + 4];
      for (int i = 0; i < ways.length; i++) for (int d = 0; d < 5; d++) more[i + d] += ways[i];
      ways = more;
    }
    // those that leave -20 to 20 on the way need 11 bars of one kind: none comes back to 0
    due("rows", x.rows(0, 0, 0), ways[24]);
    due("gladdest", x.best(0, 0, 0, 0), 216);
    due("order", x.order(0, 15, 0, 0), 864);
    due("order", x.order(0, 15, 0, 13), 3);
    due("mostPieces", x.mostPieces(0, 20), 15);
    due("who owes can't draw out first", x.order(1, 15, -20, 0), 864 - 18);
    due("the store's bounds", x.rows(1, 0, -20) < ways[24] ? 1 : 0, 1);
  }

  private static void longLaw() {
    promise = "3 a text of 900 bytes";
    StringBuilder b = new StringBuilder("desk;piece up 1;player;glad:1");
    while (b.length() < 899) b.append(b.length() % 2 == 1 ? '+' : '1');
    String text = b.append(';').toString();
    RubatoDesk x = new RubatoDesk();
    due("900 bytes fed", feedText(x, text), 900);
    due("900 bytes", x.desk(900), 4);
    due("all of it", x.glad(0, 0, 0, 0, 0), 1 + (899 - 29) / 2);
    due("the last sign", tell(x, text.substring(0, 899) + "?"), FAULT - 1);
    due("its place", x.fault(1), 899);
    due("the end", tell(x, text.substring(0, 899) + " "), FAULT - 2);
    due("its place", x.fault(1), 900);
    due("signs alone", tell(x, ";".repeat(900)), FAULT - 2);
    due("their place", x.fault(1), 0);
  }

  /** What a law said of one player or temper is never taken for another one's. */
  private static void whoAndTemper() {
    promise = "19 who and temper";
    for (int a = 0; a < 50; a++) {
      RubatoDesk x = told("desk;piece up 1;player;player;player;player;player;glad : (who * 10 + temper) * draw;");
      for (int b = 0; b < 50; b++) {
        for (int k : new int[] {a, b}) {
          x.temper(k / 10, k % 10);
          due("best of " + k, x.best(k / 10, 0, -20, 0), 2 * k);
        }
      }
    }
  }

  /** No call may throw, whatever it is given; a run of 512 calls makes next to nothing. */
  private static void manyCalls() {
    promise = "7 of the language";
    String text = DESK + "glad : " + "draw * want - last * store + who * temper - piece * bar;may : store > 0 - 20 or draw < 2;";
    RubatoDesk x = told(text);
    int[] odd = {Integer.MIN_VALUE, Integer.MIN_VALUE + 1, -1000000, -101, -21, -20, -3, -2, -1, 0, 1, 2, 3, 4, 5, 9, 10, 12, 13, 20, 21, 22, 31, 32,
        40, 41, 99, 100, 1 << 20, Integer.MAX_VALUE - 1, Integer.MAX_VALUE};
    java.util.Random r = new java.util.Random(5);
    for (int i = 0; i < 200000; i++) {
      int a = odd[r.nextInt(odd.length)], b = odd[r.nextInt(odd.length)], c = odd[r.nextInt(odd.length)], d = odd[r.nextInt(odd.length)];
      if (r.nextInt(3) == 0) { a = r.nextInt(3); b = r.nextInt(3); }
      if (i % 450 == 0) { x = r.nextBoolean() ? told(text) : told(DESK); }
      any(x, r.nextInt(40), a, b, c, d, odd[r.nextInt(odd.length)]);
      checked++;
    }
    promise = "the room";
    String bars = " up 9 down 9 up 9 down 9 up 9 down 9 up 9 down 9 up 9 down 9 up 9 down 9;";
    x = told("desk;piece" + bars + "piece" + bars + "piece" + bars + "piece" + bars + "player;player;glad : draw * last - store * temper + who;");
    fill(x, 0, 3, 0, 101, -1, 1105, 10, 111, 12);
    var threads = (com.sun.management.ThreadMXBean) java.lang.management.ManagementFactory.getThreadMXBean();
    threads.getCurrentThreadAllocatedBytes();
    long ahead = threads.getCurrentThreadAllocatedBytes();
    for (int i = 0; i < 470; i++) any(x, i % 40, i % 2, (i / 40) % 4, i % 5, 0, 0);
    long made = threads.getCurrentThreadAllocatedBytes() - ahead;
    due("a run of calls makes less than 800,000 bytes, not " + made, made < 800000 ? 1 : 0, 1);
  }

  private static long any(RubatoDesk x, int call, int a, int b, int c, int d, int e) {
    switch (call) {
      case 0: return x.feed(a, b, c, d, e);
      case 1: return x.desk(a > 0 && a < 100 ? -a : a);
      case 2: return x.fault(a);
      case 3: return x.player(a, b);
      case 4: return x.wants(a, b);
      case 5: return x.bars(a);
      case 6: return x.glad(a, b, c, d, e);
      case 7: return x.play(a, b);
      case 8: return x.perform(a, b);
      case 9: return x.lend(a, b, c);
      case 10: return x.temper(a, b);
      case 11: return x.friday();
      case 12: return x.undo(a);
      case 13: return x.judge(a, b);
      case 14: return x.does(a);
      case 15: return x.term(a, b);
      case 16: return x.comes(a, b, c);
      case 17: return x.best(a, b, c, d);
      case 18: return x.rows(a, b, c);
      case 19: return x.thriftiest(a, b);
      case 20: return x.least(a, b, c, d);
      case 21: return x.squarest(a, b);
      case 22: return x.order(a, b, c, d);
      case 23: return x.mostPieces(a, b);
      case 24: return x.gladdest(a);
      case 25: return x.lends(a, b, c, d);
      case 26: return x.reply(a, b, c, d);
      case 27: return x.heard(a, b, c, d);
      case 28: return x.sure(a, b, c, d, e);
      case 29: return x.tempers(a, b, c);
      case 30: return x.next(a, b, c);
      case 31: return x.chance(a, b, c, d);
      case 32: return x.putBy(a, b, c);
      case 33: return x.numbers(a, b, c);
      case 34: return x.write(a, b, (long) c * d);
      case 35: return x.lists(a, b, c, d);
      case 36: return x.image(a);
      case 37: return x.restore(a);
      case 38: return x.count(a);
      default: return x.fault(b);
    }
  }
}
