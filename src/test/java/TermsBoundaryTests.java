/** The boundary cases that the document's "Terms" name: a test for each sentence, named after its part and paragraph. */
public final class TermsBoundaryTests {
  private static final int NONE = Book.NONE;

  public static void main(String[] args) {
    Book.run(TermsBoundaryTests.class);
    Book.end();
  }

  private static void due(String what, long got, long want) {
    Book.due(what, got, want);
  }

  // ==== 1. the text

  /** A text of n bytes: blanks in front, the desk's word and sign at its end. */
  private static String longText(int n) {
    return " ".repeat(n - 5) + "desk;";
  }

  /** "THE DESK is a TEXT of at most 900 bytes" */
  static void terms1TextOfAtMost900Bytes() {
    for (int n : new int[] {5, 880, 881, 899, 900}) {
      RubatoDesk x = new RubatoDesk();
      Book.feedText(x, longText(n));
      due("a text of " + n, x.desk(n), 1);
    }
    RubatoDesk x = new RubatoDesk();
    due("of 901 but 900 are taken", Book.feedText(x, longText(901)), Book.NOT_NOW);
    due("901 can't be read", x.desk(901), Book.BAD);
    due("of 900 the last sign is missing", x.desk(900), Book.FAULT - 2);
    due("its place", x.fault(1), 900);
  }

  /** "(without one: no PIECES, no PLAYERS)" */
  static void terms1WithoutAText() {
    RubatoDesk x = new RubatoDesk();
    due("pieces", x.count(0), 0);
    due("players", x.count(1), 0);
    due("a faulty text tells none", Book.tell(x, "desk;piece;player;?"), Book.FAULT - 1);
    due("pieces", x.count(0), 0);
    due("players", x.count(1), 0);
    due("lines", x.count(10), 0);
  }

  /** "desk ; { LINE ; }": no line, one, many; each with its sign. */
  static void terms1Lines() {
    Book.right("desk;", 1);
    Book.right("desk;slips 0;", 2);
    Book.right("desk;" + Book.times(111, "slips 1;"), 112);
    Book.faulty("desk", 2, 4);
    Book.faulty(";", 2, 0);
    Book.faulty("desk;;", 2, 5);
    Book.faulty("desk;slips 0", 2, 12);
    Book.faulty("desk;slips 0;;", 2, 13);
    Book.faulty("desk slips 0;", 2, 5);
    Book.faulty("desk;slips 0 slips 0;", 2, 13);
    Book.faulty("desk:", 2, 4);
  }

  /** "LINE: piece { BAR } | player { FLAG } | glad : SUM | may : TRUTH | slips N." */
  static void terms1WhatALineIs() {
    Book.right("desk;piece;player;glad:1;may:1=1;slips 1;", 6);
    for (String word : new String[] {"up 1", "down 1", "has 1", "owes 1", "temper 1", "who", "bar", "want", "draw", "last", "store", "or", "and", "not",
        "pieces", "piec", "players", "slip", "x", "1", "999", "(", "[", ":", "+"}) {
      Book.faulty("desk;" + word + ";", 2, 5);
    }
    Book.faulty("desk;slips;", 2, 10);
    Book.faulty("desk;slips 1 1;", 2, 13);
    Book.faulty("desk;slips :1;", 2, 11);
    Book.faulty("desk;glad;", 2, 9);
    Book.faulty("desk;glad 1;", 2, 10);
    Book.faulty("desk;glad:;", 2, 10);
    Book.faulty("desk;may;", 2, 8);
    Book.faulty("desk;may 1=1;", 2, 9);
    Book.faulty("desk;may:;", 2, 9);
    Book.faulty("desk;piece:;", 2, 10);
    Book.faulty("desk;player:;", 2, 11);
  }

  /** "BAR: up N | down N.   FLAG: has N | owes N | temper N." */
  static void terms1BarsAndFlags() {
    Book.right("desk;piece up 0 down 0;player has 0 owes 0 temper 0;", 3);
    Book.faulty("desk;piece up;", 2, 13);
    Book.faulty("desk;piece down;", 2, 15);
    Book.faulty("desk;piece up down 1;", 2, 14);
    Book.faulty("desk;piece 1;", 2, 11);
    Book.faulty("desk;piece up 1 1;", 2, 16);
    Book.faulty("desk;piece has 1;", 2, 11);
    Book.faulty("desk;piece temper 1;", 2, 11);
    Book.faulty("desk;piece up (1);", 2, 14);
    Book.faulty("desk;piece up -1;", 2, 14);
    Book.faulty("desk;player has;", 2, 15);
    Book.faulty("desk;player owes;", 2, 16);
    Book.faulty("desk;player temper;", 2, 18);
    Book.faulty("desk;player has 1 up 1;", 2, 18);
    Book.faulty("desk;player 1;", 2, 12);
    Book.faulty("desk;player has -1;", 2, 16);
    Book.faulty("desk;player has 1 1;", 2, 18);
  }

  /** "TRUTH: BOTH { or BOTH }; BOTH: UNIT { and UNIT }": one, many; none is missing at either side. */
  static void terms1TruthAndBoth() {
    Book.right("desk;may:1=1;", 2);
    Book.right("desk;may:1=1 or 1=1;", 2);
    Book.right("desk;may:1=1 and 1=1;", 2);
    Book.right("desk;may:1=1" + Book.times(126, " or 1=1") + ";", 2);
    Book.right("desk;may:1=1" + Book.times(110, " and 1=1") + ";", 2);
    Book.faulty("desk;may:or 1=1;", 2, 9);
    Book.faulty("desk;may:and 1=1;", 2, 9);
    Book.faulty("desk;may:1=1 or;", 2, 15);
    Book.faulty("desk;may:1=1 and;", 2, 16);
    Book.faulty("desk;may:1=1 or or 1=1;", 2, 16);
    Book.faulty("desk;may:1=1 and or 1=1;", 2, 17);
    Book.faulty("desk;may:1=1 1=1;", 2, 13);
    Book.faulty("desk;glad:1 or 1;", 2, 12);
    Book.faulty("desk;glad:1 and 1;", 2, 12);
  }

  /** "UNIT: not UNIT, [ TRUTH ], or SUM, one of = < >, SUM" */
  static void terms1Unit() {
    Book.right("desk;may:1=1;may:1<1;may:1>1;", 4);
    Book.right("desk;may:not 1=1;may:[1=1];may:not[1=1 or 1=1 and 1=1];", 4);
    Book.faulty("desk;may:not;", 2, 12);
    Book.faulty("desk;may:not or;", 2, 13);
    Book.faulty("desk;may:[];", 2, 10);
    Book.faulty("desk;may:[1];", 2, 11);
    Book.faulty("desk;may:[1=1;", 2, 13);
    Book.faulty("desk;may:1=1];", 2, 12);
    Book.faulty("desk;may:[1=1);", 2, 13);
    Book.faulty("desk;may:1;", 2, 10);
    Book.faulty("desk;may:=1;", 2, 9);
    Book.faulty("desk;may:1=;", 2, 11);
    Book.faulty("desk;may:1==1;", 2, 11);
    Book.faulty("desk;may:1<=1;", 2, 11);
    Book.faulty("desk;may:1=1=1;", 2, 12);
    Book.faulty("desk;may:1<1>1;", 2, 12);
    Book.faulty("desk;may:1=not 1=1;", 2, 11);
    Book.faulty("desk;may:1=[1=1];", 2, 11);
    Book.faulty("desk;may:[1=1]=1;", 2, 14);
    Book.faulty("desk;glad:1=1;", 2, 11);
    Book.faulty("desk;glad:not 1=1;", 2, 10);
    Book.faulty("desk;glad:[1=1];", 2, 10);
  }

  /** "SUM: TERM { + TERM | - TERM }; TERM: ATOM { * ATOM }": one, many; no sign stands in front or behind. */
  static void terms1SumAndTerm() {
    Book.right("desk;glad:1;glad:1+1;glad:1-1;glad:1*1;glad:1+1-1*1;", 6);
    Book.right("desk;glad:1" + Book.times(440, "*1") + ";", 2);
    Book.right("desk;glad:1" + Book.times(440, "-1") + ";", 2);
    Book.faulty("desk;glad:+1;", 2, 10);
    Book.faulty("desk;glad:-1;", 2, 10);
    Book.faulty("desk;glad:*1;", 2, 10);
    Book.faulty("desk;glad:1+;", 2, 12);
    Book.faulty("desk;glad:1-;", 2, 12);
    Book.faulty("desk;glad:1*;", 2, 12);
    Book.faulty("desk;glad:1+-1;", 2, 12);
    Book.faulty("desk;glad:1**1;", 2, 12);
    Book.faulty("desk;glad:1 1;", 2, 12);
    Book.faulty("desk;glad:who who;", 2, 14);
  }

  /** "ATOM: N, ( SUM ), who, temper, piece, bar, want, draw, last, store" and no other word. */
  static void terms1Atom() {
    for (String atom : new String[] {"0", "000", "999", "(1)", "who", "temper", "piece", "bar", "want", "draw", "last", "store"}) {
      Book.right("desk;glad:" + atom + ";may:" + atom + "=" + atom + ";", 3);
    }
    for (String word : new String[] {"desk", "player", "glad", "may", "slips", "up", "down", "has", "owes", "or", "and", "not", "joy", "wants", "stor", "tempers"}) {
      Book.faulty("desk;glad:" + word + ";", 2, 10);
      Book.faulty("desk;glad:1*" + word + ";", 2, 12);
      if (!word.equals("not")) Book.faulty("desk;may:" + word + "=1;", 2, 9);
    }
    Book.faulty("desk;glad:();", 2, 11);
    Book.faulty("desk;glad:(1;", 2, 12);
    Book.faulty("desk;glad:1);", 2, 11);
    Book.faulty("desk;glad:(1];", 2, 12);
    Book.faulty("desk;glad:(1=1);", 2, 12);
    Book.faulty("desk;glad:1(1);", 2, 11);
  }

  /** "At most six of not [ ( within one another": six are right, the seventh is not, of one kind and of all kinds. */
  static void terms1SixWithinOneAnother() {
    for (int outer = 0; outer <= 7; outer++) {
      for (int kinds = 0; kinds < 1 << outer; kinds++) {
        if (outer <= 6) Book.right(nested(outer, kinds, 6 - outer), 2);
        String seven = nested(outer, kinds, 7 - outer);
        Book.faulty(seven, 4, placeOfSeventh(seven));
        if (outer < 6) {
          String behind = nestedBehind(outer, kinds, 7 - outer);
          Book.right(nestedBehind(outer, kinds, 6 - outer), 2);
          Book.faulty(behind, 4, placeOfSeventh(behind));
        }
      }
    }
  }

  /** Of not and [ as the bits of kinds tell, within them brackets around the number ahead of the sign. */
  private static String nested(int outer, int kinds, int inner) {
    return opened(outer, kinds) + "(".repeat(inner) + "1" + ")".repeat(inner) + "=1" + "]".repeat(Integer.bitCount(kinds)) + ";";
  }

  private static String nestedBehind(int outer, int kinds, int inner) {
    return opened(outer, kinds) + "1=" + "(".repeat(inner) + "1" + ")".repeat(inner) + "]".repeat(Integer.bitCount(kinds)) + ";";
  }

  private static String opened(int outer, int kinds) {
    StringBuilder b = new StringBuilder("desk;may:");
    for (int i = 0; i < outer; i++) b.append((kinds >> i & 1) != 0 ? "[" : "not ");
    return b.toString();
  }

  private static int placeOfSeventh(String text) {
    int seen = 0;
    for (int i = 9; i < text.length(); i++) {
      if ("n[(".indexOf(text.charAt(i)) >= 0 && ++seen == 7) return i;
    }
    return NONE;
  }

  /** "within one another": what stands beside it, closed, doesn't count. */
  static void terms1SixBesideOneAnother() {
    Book.right("desk;glad:((((((1))))))+((((((1))))))*((((((1))))));", 2);
    Book.right("desk;glad:(1)+(1)+(1)+(1)+(1)+(1)+(1)+(1);", 2);
    Book.right("desk;may:[[[[[[1=1]]]]]]and[[[[[[1=1]]]]]]or[[[[[[1=1]]]]]];", 2);
    Book.right("desk;may:" + Book.times(8, "not 1=1 or ") + "not not not not not not 1=1;", 2);
    Book.right("desk;may:" + Book.times(8, "not 1=1 and ") + "((((((1))))))=((((((1))))));", 2);
    Book.right("desk;may:[not[not 1=1 or not not[1=1]]and not not not not not 1=1];", 2);
    Book.faulty("desk;may:[not[not 1=1 or not not[1=1]]and not not not not not not 1=1];", 4, 62);
    Book.right("desk;glad:((((((1))))));glad:((((((1))))));", 3);
    Book.faulty("desk;glad:(((((1)*((1)))));", 2, 26);
    Book.faulty("desk;glad:(((((1)*(((1)))))));", 4, 20);
  }

  /** "piece: its BARS, 12 at most (0, too)" and "4 .. the word of a 13th BAR" */
  static void terms1TwelveBars() {
    for (int bars : new int[] {0, 1, 11, 12}) {
      RubatoDesk x = Book.told("desk;piece" + Book.times(bars, " up 1") + ";");
      due("bars", x.bars(0), bars);
      due("bars together", x.count(2), bars);
      due("the last", x.wants(0, bars - 1), bars == 0 ? Book.NO_SUCH : 1);
      due("one more", x.wants(0, bars), Book.NO_SUCH);
    }
    Book.faulty("desk;piece" + Book.times(13, " up 1") + ";", 4, 10 + 12 * 5 + 1);
    Book.faulty("desk;piece" + Book.times(12, " up 1") + " down 1;", 4, 71);
    Book.faulty("desk;piece" + Book.times(12, " up 1") + " up", 4, 71);
    Book.faulty("desk;piece" + Book.times(12, " up 1") + " up 99;", 4, 71);
    Book.faulty("desk;piece" + Book.times(12, " up 1") + " has 1;", 2, 71);
    Book.faulty("desk;piece" + Book.times(12, " up 1") + " 1;", 2, 71);
    Book.right("desk;" + Book.times(4, "piece" + Book.times(12, " down 9") + ";"), 5);
    Book.faulty("desk;piece;piece" + Book.times(13, " up 1") + ";", 4, 16 + 61);
  }

  /** "up N: it WANTS N, 0 to 9, down N: it WANTS -N" */
  static void terms1Wants() {
    for (int n = 0; n <= 9; n++) {
      RubatoDesk x = Book.told("desk;piece up " + n + " down " + n + " up 00" + n + ";");
      due("up", x.wants(0, 0), n);
      due("down", x.wants(0, 1), -n);
      due("with zeros", x.wants(0, 2), n);
    }
    for (String n : new String[] {"10", "010", "99", "100", "999"}) {
      Book.faulty("desk;piece up " + n + ";", 3, 14);
      Book.faulty("desk;piece down " + n + ";", 3, 16);
      Book.faulty("desk;piece up 1 down " + n + ";", 3, 21);
    }
  }

  /** "numbered from 0 on, 4 at most" and "4 the first TOKEN of a 5th piece" */
  static void terms1FourPieces() {
    for (int pieces = 0; pieces <= 4; pieces++) {
      RubatoDesk x = Book.told("desk;" + Book.times(pieces, "piece up 1;"));
      due("pieces", x.count(0), pieces);
      for (int piece = 0; piece < 5; piece++) due("piece " + piece, x.bars(piece), piece < pieces ? 1 : Book.NO_SUCH);
    }
    RubatoDesk x = Book.told("desk;piece up 1;piece up 2;piece up 3;piece up 4;");
    for (int piece = 0; piece < 4; piece++) due("numbered from 0 on", x.wants(piece, 0), piece + 1);
    Book.faulty("desk;" + Book.times(5, "piece;"), 4, 5 + 24);
    Book.faulty("desk;" + Book.times(4, "piece;") + "player;slips 1;piece", 4, 5 + 24 + 15);
    Book.faulty("desk;" + Book.times(4, "piece;") + "piece up 99;", 4, 29);
    Book.faulty("desk;" + Book.times(4, "piece;") + "piece ?", 4, 29);
    Book.right("desk;" + Book.times(4, "piece;") + "glad : piece;", 6);
  }

  /** "has N: N, owes N: -N, 0 to 20 (0; the later one strikes)" */
  static void terms1Stores() {
    due("none told", Book.told("desk;player;").player(0, 0), 0);
    for (int n : new int[] {0, 1, 19, 20}) {
      due("has", Book.told("desk;player has " + n + ";").player(0, 0), n);
      due("owes", Book.told("desk;player owes " + n + ";").player(0, 0), -n);
    }
    for (String n : new String[] {"21", "021", "30", "99", "100", "999"}) {
      Book.faulty("desk;player has " + n + ";", 3, 16);
      Book.faulty("desk;player owes " + n + ";", 3, 17);
    }
    due("owes is later", Book.told("desk;player has 20 owes 20;").player(0, 0), -20);
    due("has is later", Book.told("desk;player owes 20 has 20;").player(0, 0), 20);
    due("has twice", Book.told("desk;player has 20 has 3;").player(0, 0), 3);
    due("owes twice", Book.told("desk;player owes 20 owes 3;").player(0, 0), -3);
    due("0 is later", Book.told("desk;player has 20 owes 0;").player(0, 0), 0);
    due("a temper between", Book.told("desk;player has 20 temper 3 owes 1;").player(0, 0), -1);
    due("many", Book.told("desk;player" + Book.times(110, " has 20") + " owes 7;").player(0, 0), -7);
    RubatoDesk x = Book.told("desk;player has 4;player;");
    due("of another player none is told", x.player(1, 0), 0);
  }

  /** "temper 0 to 9 (0; a later one strikes)" */
  static void terms1Tempers() {
    due("none told", Book.told("desk;player has 5;").player(0, 2), 0);
    for (int n = 0; n <= 9; n++) due("temper", Book.told("desk;player temper " + n + ";").player(0, 2), n);
    for (String n : new String[] {"10", "010", "99", "100", "999"}) Book.faulty("desk;player temper " + n + ";", 3, 19);
    due("the later", Book.told("desk;player temper 9 temper 3;").player(0, 2), 3);
    due("the later", Book.told("desk;player temper 9 has 2 temper 0;").player(0, 2), 0);
    due("of another player none is told", Book.told("desk;player temper 4;player;").player(1, 2), 0);
  }

  /** "numbered from 0 on, 5 at most" and "4 .. a 6th player" */
  static void terms1FivePlayers() {
    for (int players = 0; players <= 5; players++) {
      RubatoDesk x = Book.told("desk;" + Book.times(players, "player;"));
      due("players", x.count(1), players);
      for (int p = 0; p < 6; p++) due("player " + p, x.player(p, 0), p < players ? 0 : Book.NO_SUCH);
    }
    RubatoDesk x = Book.told("desk;player has 1;player has 2;player has 3;player has 4;player has 5;");
    for (int p = 0; p < 5; p++) due("numbered from 0 on", x.player(p, 0), p + 1);
    Book.faulty("desk;" + Book.times(6, "player;"), 4, 5 + 35);
    Book.faulty("desk;" + Book.times(5, "player;") + "piece;player", 4, 5 + 35 + 6);
    Book.faulty("desk;" + Book.times(5, "player;") + "player has 99;", 4, 40);
    Book.right("desk;" + Book.times(5, "player;") + Book.times(4, "piece;"), 10);
  }

  /** "slips: how likely, in 10, 0 to 10 (0)" */
  static void terms1Slips() {
    due("none told", Book.told("desk;").count(7), 0);
    for (int n = 0; n <= 10; n++) due("slips", Book.told("desk;slips " + n + ";").count(7), n);
    for (String n : new String[] {"11", "011", "20", "100", "999"}) Book.faulty("desk;slips " + n + ";", 3, 11);
    RubatoDesk x = Book.told("desk;piece down 1;player;slips 0;");
    due("0: never", x.chance(0, 0, 2, 0), 1);
    x = Book.told("desk;piece down 1;player;slips 10;");
    due("10: always", x.chance(0, 0, 2, 0), 0);
    due("10: always", x.chance(0, 0, 1, 0), 1);
  }

  /** "Later ones of glad, may, slips strike." */
  static void terms1LaterOnesStrike() {
    due("glad", Book.told("desk;glad:1;piece up 1;player;glad:2;").glad(0, 0, 0, 0, 0), 2);
    due("may", Book.told("desk;may:1=2;piece up 1;player;may:1=1;").comes(0, 0, 2), NONE);
    due("may", Book.told("desk;may:1=1;piece up 1;player;may:1=2;").comes(0, 0, 2), 0);
    due("slips", Book.told("desk;slips 10;slips 0;").count(7), 0);
    due("three", Book.told("desk;slips 10;slips 0;slips 4;").count(7), 4);
    due("what the earlier one asked for is gone",
        Book.told("desk;piece up 1 up 1;player;glad:last*store*999;glad:draw;may:last=9;may:draw<2;").best(0, 0, -20, 0), 2);
    due("all are lines", Book.told("desk;glad:1;glad:2;may:1=1;may:1=2;slips 1;slips 2;").count(10), 7);
  }

  /** "TOKENS, as long as they go on": a word and a number end where their signs end, not ahead of that. */
  static void terms1TokensGoOnAsLongAsTheyCan() {
    Book.faulty("desks;", 2, 0);
    Book.faulty("deskpiece;", 2, 0);
    Book.faulty("desk;pieceup 1;", 2, 5);
    Book.faulty("desk;piece upup 1;", 2, 11);
    Book.faulty("desk;may:notnot 1=1;", 2, 9);
    Book.faulty("desk;may:not1=1or1=1 orr 1=1;", 2, 21);
    Book.faulty("desk;slips 1 0;", 2, 13);
    due("two digits are one number", Book.told("desk;slips 10;").count(7), 10);
    due("three digits are one number", Book.told("desk;slips 010;").count(7), 10);
    Book.right("desk;piece up3down9up0;player has20owes0temper9;slips10;may:not1=1or2=2and3=3;", 5);
  }

  /** "between them blanks (10, 32)": these two, none or many, and no other sign. */
  static void terms1Blanks() {
    Book.right("desk;piece up 1;", 2);
    Book.right("\ndesk\n;\npiece\nup\n1\n;\n", 2);
    Book.right("  \n\n desk \n ;  piece  up \n 1 ;  \n", 2);
    for (int sign : new int[] {0, 9, 11, 12, 13, 31, 33, 127, 128, 160, 255}) {
      Book.faulty((char) sign + "desk;", 1, 0);
      Book.faulty("desk" + (char) sign + ";", 1, 4);
      Book.faulty("desk;" + (char) sign, 1, 5);
      Book.faulty("desk;piece" + (char) sign + "up 1;", 1, 10);
    }
  }

  /** "words (small letters), N (1 to 3 digits), the signs": of all bytes just these begin a TOKEN. */
  static void terms1WhatBeginsAToken() {
    for (int sign = 0; sign < 256; sign++) {
      boolean token = sign >= 'a' && sign <= 'z' || sign >= '0' && sign <= '9' || ";:+-*()[]=<>".indexOf(sign) >= 0;
      if (sign == 10 || sign == 32) Book.right("desk;" + (char) sign, 1);
      else Book.faulty("desk;" + (char) sign, token ? 2 : 1, 5);
      boolean ends = !(sign >= 'a' && sign <= 'z');
      if (sign != 10 && sign != 32 && ends) Book.faulty("desk" + (char) sign + "x", token ? 2 : 1, sign == ';' ? 5 : 4);
    }
    Book.faulty("desk;Piece;", 1, 5);
    Book.faulty("desk;pieCe;", 2, 5);
    Book.faulty("Desk;", 1, 0);
  }

  /** "1 no TOKEN begins so (4 digits and more: at their first)" */
  static void terms1FourDigits() {
    for (String n : new String[] {"0", "00", "000", "9", "99", "999"}) Book.right("desk;glad:" + n + ";", 2);
    for (String n : new String[] {"0000", "0001", "1000", "9999", "12345", "0".repeat(100)}) {
      Book.faulty("desk;glad:" + n + ";", 1, 10);
      Book.faulty("desk;piece up " + n + ";", 1, 14);
      Book.faulty("desk;player has " + n + ";", 1, 16);
      Book.faulty("desk;slips " + n + ";", 1, 11);
      Book.faulty("desk;" + n, 1, 5);
      Book.faulty(n, 1, 0);
      Book.faulty("desk;glad:1+" + n + "x;", 1, 12);
    }
    Book.faulty("desk;glad:1 000 0;", 2, 12);
  }

  /** "2 it can't stand there (the end: the text's length ..)": also where blanks stand at the end, or the tape goes on. */
  static void terms1TheEnd() {
    Book.faulty("", 2, 0);
    Book.faulty(" ", 2, 1);
    Book.faulty("\n\n\n", 2, 3);
    Book.faulty("desk", 2, 4);
    Book.faulty("desk   ", 2, 7);
    Book.faulty("desk;piece up", 2, 13);
    Book.faulty("desk;piece up \n", 2, 15);
    Book.faulty("desk;may:[1=1", 2, 13);
    Book.faulty("desk;glad:1+", 2, 12);
    Book.faulty("desk;glad:1", 2, 11);
    for (int n = 0; n < 5; n++) {
      RubatoDesk x = new RubatoDesk();
      Book.feedText(x, "desk;piece;");
      due("the first " + n, x.desk(n), Book.FAULT - 2);
      due("a word that is cut off stands at its first sign", x.fault(1), n == 0 || n == 4 ? n : 0);
    }
    RubatoDesk x = new RubatoDesk();
    Book.feedText(x, "desk;piece up 12345;");
    due("the number is cut off ahead of its fourth digit", x.desk(17), Book.FAULT - 3);
    Book.feedText(x, "desk;slips 1000;");
    due("the number is cut off behind its first digit", x.desk(12), Book.FAULT - 2);
    due("the end", x.fault(1), 12);
    Book.feedText(x, " ".repeat(900));
    due("nine hundred blanks", x.desk(900), Book.FAULT - 2);
    due("the end", x.fault(1), 900);
  }

  /** "desk must be told first, and once" */
  static void terms1DeskFirstAndOnce() {
    for (String first : new String[] {"piece;", "player;", "glad:1;", "may:1=1;", "slips 1;", ";", "1;", ":", "x"}) {
      Book.faulty(first + "desk;", 2, 0);
      Book.faulty(" " + first, 2, 1);
    }
    Book.faulty("desk;desk;", 2, 5);
    Book.faulty("desk;piece;desk;", 2, 11);
    Book.faulty("desk desk;", 2, 5);
    Book.faulty("desk;piece desk;", 2, 11);
    Book.faulty("desk;glad:desk;", 2, 10);
  }

  /** "FAULTS, the first along the text": whatever kind those behind it are. */
  static void terms1FirstAlongTheText() {
    Book.faulty("desk;piece up 10 ? ", 3, 14);
    Book.faulty("desk;piece up 10 up 1000;", 3, 14);
    Book.faulty("desk;foo;slips 11;?", 2, 5);
    Book.faulty("desk;slips 11;foo;?", 3, 11);
    Book.faulty("desk;?;foo;slips 11;", 1, 5);
    Book.faulty("desk;glad:(((((((? 1000", 4, 16);
    Book.faulty("desk;slips 11 foo", 3, 11);
    Book.faulty("desk;piece;piece;piece;piece;slips 11;piece;", 3, 35);
    Book.faulty("desk;piece;piece;piece;piece;piece;slips 11;", 4, 29);
    Book.faulty("piece up 10;", 2, 0);
  }

  /** "of one TOKEN the least kind": 1 ahead of 2 and 3, 2 ahead of 3 and 4. */
  static void terms1LeastKindOfOneToken() {
    Book.faulty("1000", 1, 0);
    Book.faulty("desk;piece 1000;", 1, 11);
    Book.faulty("desk;piece up 1000;", 1, 14);
    Book.faulty("desk;piece ?;", 1, 11);
    Book.faulty("desk;piece 100;", 2, 11);
    Book.faulty("desk;piece up 1 100;", 2, 16);
    Book.faulty("desk;slips 10 11;", 2, 14);
    Book.faulty("desk;" + Book.times(3, "piece;") + "piece piece;", 2, 29);
    Book.faulty("desk;" + Book.times(4, "player;") + "player player;", 2, 40);
    Book.faulty("desk;piece" + Book.times(11, " up 1") + " up up 1;", 2, 10 + 55 + 4);
    Book.faulty("desk;" + Book.times(4, "piece;") + "slips piece;", 2, 35);
    Book.faulty("desk;glad:(((((([1=1;", 2, 16);
    Book.faulty("desk;glad:((((((not 1;", 2, 16);
    Book.faulty("desk;may:[[[[[[(1)=1;", 4, 15);
    Book.faulty("desk;may:[[[[[[1(1;", 2, 16);
    Book.faulty("desk;may:[[[[[[1[1;", 2, 16);
    Book.faulty("desk;may:not not not not not not 1 not 1;", 2, 35);
  }

  /** "3 an N out of its bounds": each of the five; a law's N has none but its three digits. */
  static void terms1NumbersOutOfBounds() {
    Book.right("desk;piece up 9 down 9;player has 20 owes 20 temper 9;slips 10;glad:999;", 5);
    Book.faulty("desk;piece up 10;", 3, 14);
    Book.faulty("desk;piece down 10;", 3, 16);
    Book.faulty("desk;player has 21;", 3, 16);
    Book.faulty("desk;player owes 21;", 3, 17);
    Book.faulty("desk;player temper 10;", 3, 19);
    Book.faulty("desk;slips 11;", 3, 11);
    Book.faulty("desk;slips 11", 3, 11);
    Book.faulty("desk;slips 1;slips 11;slips 1;", 3, 19);
  }

  // ==== 2. to play

  /** "one DRAWS it out by -2 to 2": these five and no others. */
  static void terms2DrawsMinus2To2() {
    RubatoDesk x = Book.told("desk;piece up 1;player;");
    for (int end = -20; end <= 20; end++) due("rows to " + end, x.rows(0, 0, end), end >= -2 && end <= 2 ? 1 : 0);
    for (int draw = -4; draw <= 4; draw++) due("glad by " + draw, x.glad(0, 0, 0, draw, 0), Math.abs(draw) <= 2 ? draw : Book.BAD);
    due("the most", Book.told("desk;piece up 1;player;glad:draw;").comes(0, 0, 10), 2);
    due("the least", Book.told("desk;piece up 1;player;glad:0-draw;").comes(0, 0, 10), -2);
    due("none is 3", Book.told("desk;piece up 1;player;may:draw>2;").comes(0, 0, 2), 0);
    due("none is -3", Book.told("desk;piece up 1;player;may:draw<0-2;").comes(0, 0, 2), 0);
  }

  /** "its STORE is so much less; it must be -20 to 20 then": each STORE near a bound, by each draw. */
  static void terms2StoreWithinItsBounds() {
    for (int store = -20; store <= 20; store++) {
      RubatoDesk x = Book.told("desk;piece up 1;player " + (store < 0 ? "owes " : "has ") + Math.abs(store) + ";");
      long all = 0;
      for (int draw = -2; draw <= 2; draw++) {
        int end = store - draw;
        boolean can = end >= -20 && end <= 20;
        if (can) {
          due("from " + store + " by " + draw, x.rows(0, 0, end), 1);
          all++;
        }
      }
      due("as it comes from " + store, x.comes(0, 0, 10), Math.min(2, store + 20));
      due("the store then", x.comes(0, 0, 1), store - Math.min(2, store + 20));
      due("the best", x.best(0, 0, -20, 10), Math.min(2, store + 20));
      due("the greatest store", x.thriftiest(0, 0), Math.min(20, store + 2));
      Book.fill(x, 0, 0, 9);
      due("all from " + store, x.heard(0, 0, 0, 99), all);
    }
  }

  /** "it must be -20 to 20 then": behind each BAR, not only in the end. */
  static void terms2StoreWithinItsBoundsAtEachBar() {
    RubatoDesk x = Book.told("desk;piece up 1 up 1;player has 20;player owes 20;");
    Book.fill(x, 0, 0, -1, 1);
    due("above 20 on the way", x.heard(0, 0, 0, 99), 0);
    due("from -20 it may be", x.heard(0, 1, 0, 99), 1);
    Book.fill(x, 0, 0, 1, -1);
    due("below -20 on the way", x.heard(0, 1, 0, 99), 0);
    due("from 20 it may be", x.heard(0, 0, 0, 99), 1);
  }

  /** "and the law may must hold (without one: always)" */
  static void terms2WithoutALawMay() {
    RubatoDesk x = Book.told("desk;piece up 1 up 1;player;");
    Book.fill(x, 0, 0, 9, 9);
    due("always", x.heard(0, 0, 0, 99), 25);
    due("always, by a law", Book.tell(x, "desk;piece up 1 up 1;player;may:0=0;"), 4);
    due("always, by a law", x.heard(0, 0, 0, 99), 25);
    due("never", Book.tell(x, "desk;piece up 1 up 1;player;may:0=1;"), 4);
    due("never", x.heard(0, 0, 0, 99), 0);
    due("without one again", Book.tell(x, "desk;piece up 1 up 1;player;"), 3);
    due("always", x.heard(0, 0, 0, 99), 25);
  }

  /** "as the law glad tells (without one: what it WANTS times what it is DRAWN out)" */
  static void terms2WithoutALawGlad() {
    RubatoDesk x = Book.told("desk;piece up 9 down 9 up 0;player;");
    for (int draw = -2; draw <= 2; draw++) {
      due("up", x.glad(0, 0, 0, draw, 0), 9 * draw);
      due("down", x.glad(0, 0, 1, draw, 0), -9 * draw);
      due("0", x.glad(0, 0, 2, draw, 0), 0);
    }
    due("a law that tells 0", Book.told("desk;piece up 9;player;glad:0;").glad(0, 0, 0, 2, 0), 0);
    due("the law of the desk ahead is gone", Book.tell(x, "desk;piece up 9;player;glad:5;"), 4);
    due("a law", x.glad(0, 0, 0, 2, 0), 5);
    due("the law of the desk ahead is gone", Book.tell(x, "desk;piece up 9;player;"), 3);
    due("none", x.glad(0, 0, 0, 2, 0), 18);
  }

  /** "who: the PLAYER's number, temper: its temper, piece, bar: numbers, want: what it WANTS, draw": least and greatest. */
  static void terms2WhatTheWordsAre() {
    String bars = Book.times(11, " up 1") + " down 9";
    RubatoDesk x = Book.told("desk;" + Book.times(3, "piece up 9;") + "piece" + bars + ";" + Book.times(4, "player;")
        + "player owes 20 temper 9;glad:who*100+temper*10+piece;");
    due("the first of all", x.glad(0, 0, 0, 0, 0), 0);
    due("the last of all", x.glad(4, 3, 11, 0, 0), 493);
    x = Book.told("desk;" + Book.times(3, "piece up 9;") + "piece" + bars + ";" + Book.times(4, "player;")
        + "player owes 20 temper 9;glad:bar*100+want;");
    due("the first of all", x.glad(0, 0, 0, 0, 0), 9);
    due("the last of all", x.glad(4, 3, 11, 0, 0), 1091);
    x = Book.told("desk;piece up 9;player owes 20;player has 20;glad:draw*1+last*10+store*100;");
    due("the least", x.glad(0, 0, 0, -2, -2), -2022);
    due("the greatest", x.glad(1, 0, 0, 2, 2), 2022);
  }

  /** "last: by how much the BAR ahead was (0: the first one), store: the STORE ahead of it" */
  static void terms2LastOfTheFirstBar() {
    RubatoDesk x = Book.told("desk;piece up 1 up 1 up 1;player has 5;glad:last*100+store;may:draw=bar-1;");
    due("0 and 5, -1 and 6, 0 and 6", x.comes(0, 0, 0), 5 - 100 + 6 + 6);
    due("best, too", x.best(0, 0, -20, 0), -83);
    x = Book.told("desk;piece up 1;piece up 1;player;may:last=0 and draw=2;");
    due("at each piece's first bar", x.order(0, 3, -20, 0), 4);
    due("played", x.play(0, 0), 2);
    due("not by what was played ahead", x.play(0, 1), 2);
  }

  /** "last: by how much the BAR ahead was (0: the first one)": in all that goes through a PIECE. */
  static void terms2LastInEachCall() {
    // a first bar by 1, a second by 2, a third by none
    RubatoDesk x = Book.told("desk;piece up 1 up 1;piece up 1 up 1 up 1;piece up 1 up 1;player has 10;player has 10;may:draw=last+1;");
    due("comes", x.comes(0, 0, 0), 3);
    due("its end", x.comes(0, 0, 1), 7);
    due("comes", x.comes(0, 1, 2), 2);
    due("best", x.best(0, 0, -20, 0), 3);
    due("bar 0", x.best(0, 0, -20, 10), 1);
    due("bar 1", x.best(0, 0, -20, 11), 2);
    due("best of three", x.best(0, 1, -20, 0), Book.NO_ROW);
    for (int end = -20; end <= 20; end++) {
      due("rows to " + end, x.rows(0, 0, end), end == 7 ? 1 : 0);
      due("rows of three to " + end, x.rows(0, 1, end), 0);
    }
    due("thriftiest", x.thriftiest(0, 0), 7);
    due("squarest", x.squarest(0, 0), 7);
    due("least", x.least(0, 0, -20, 3), -17);
    due("least", x.least(0, 0, -20, 4), Book.NO_ROW);
    due("two of two", x.order(0, 5, -20, 0), 6);
    due("two of two", x.order(0, 5, 4, 0), 6);
    due("most pieces", x.mostPieces(0, -20), 5);
    due("reply", x.reply(0, 1, 0, 0), 3);
    due("lends", x.lends(0, 0, 1, 2), 0);
    due("lends", x.lends(0, 0, 1, 1), Book.NONE);
    Book.fill(x, 0, 0, 9, 9);
    due("heard", x.heard(0, 0, 0, 99), 1);
    due("sure", x.sure(0, 0, 0, 99, 0), 1);
    due("sure", x.sure(0, 0, 0, 99, 1), 2);
    due("tempers", x.tempers(0, 0, 0), 1023);
    due("chance", x.chance(0, 0, 7, 0), 1);
    due("chance", x.chance(0, 0, 8, 0), 0);
    due("putBy", x.putBy(0, 0, 1), 3);
    due("perform", x.perform(0, 0), 3);
    due("play", x.play(1, 0), 3);
    x = Book.told("desk;piece up 1 down 1;player;glad:draw*want+last-last;");
    due("each bar by what it wants itself, best", x.best(0, 0, -20, 0), 4);
    due("the first one drawn out", x.best(0, 0, -20, 10), 2);
    due("the second one hurried", x.best(0, 0, -20, 11), -2);
    due("each bar by what it wants itself, as it comes", x.comes(0, 0, 0), 4);
    // as last, by a slip 1 more: 0 and 0, 0 and 1, 1 and 1, 1 and 2
    x = Book.told("desk;piece up 1 up 1;player;slips 1;glad:0-draw;may:draw=last or draw=last+1;");
    long[][] due = {{0, 81, 100}, {-1, 9, 10}, {-2, 99, 100}, {-3, 1, 1}, {1, 0, 1}};
    for (long[] d : due) {
      due("chance to " + d[0], x.chance(0, 0, (int) d[0], 0), d[1]);
      due("chance to " + d[0], x.chance(0, 0, (int) d[0], 1), d[2]);
    }
  }

  /** "who: the PLAYER's number, temper: its temper": of the told PLAYER, whoever was asked for ahead of it. */
  static void terms2WhoAndTemperTogether() {
    RubatoDesk x = Book.told("desk;piece up 1;player;player;glad:draw*(who*2-1)*9+temper;");
    for (int first = 0; first <= 9; first++) {
      x.temper(0, first);
      for (int second = 0; second <= 9; second++) {
        x.temper(1, second);
        due("0 with " + first, x.comes(0, 0, 0), 18 + first);
        due("1 with " + second, x.comes(1, 0, 0), 18 + second);
        due("1 with " + second, x.comes(1, 0, 10), 2);
      }
    }
  }

  /** "In both laws: who .. temper .. last .. store": a word that both ask for is the same in both, BAR by BAR. */
  static void terms2WordsThatBothLawsAskFor() {
    RubatoDesk x = Book.told("desk;piece up 1 up 1;player;glad:last*10+draw;may:draw<2-last;");
    due("last: 1, then 10 for it", x.best(0, 0, -20, 0), 11);
    due("last: the first bar", x.best(0, 0, -20, 10), 1);
    due("last: the second may be by 0 at most", x.best(0, 0, -20, 11), 0);
    due("last, as it comes", x.comes(0, 0, 0), 11);
    // behind -2 and -1 all five may be, behind 0 those below 2, behind 1 those below 1
    Book.fill(x, 0, 0, 9, 9);
    due("last: rows", x.heard(0, 0, 0, 99), 5 + 5 + 4 + 3);
    x = Book.told("desk;piece up 1 up 1;player has 1;glad:store*draw;may:draw<store+1;");
    due("store: -2, then 3 times 2", x.best(0, 0, -20, 0), 4);
    due("store: the first bar", x.best(0, 0, -20, 10), -2);
    due("store: the second", x.best(0, 0, -20, 11), 2);
    due("store, as it comes", x.comes(0, 0, 0), 1);
    due("store, as it comes: with none left all are alike", x.comes(0, 0, 11), -2);
    x = Book.told("desk;piece up 1;player;player;glad:who*draw;may:draw<who+1;");
    for (int i = 0; i < 2; i++) {
      due("who: 0", x.comes(0, 0, 10), -2);
      due("who: 1", x.comes(1, 0, 10), 1);
      due("who: 0", x.best(0, 0, -20, 0), 0);
      due("who: 1", x.best(1, 0, -20, 0), 1);
    }
    x = Book.told("desk;piece up 1;player;glad:temper*draw;may:draw<temper+1;");
    for (int temper : new int[] {0, 1, 2, 0, 9}) {
      x.temper(0, temper);
      due("temper " + temper, x.comes(0, 0, 10), temper == 0 ? -2 : Math.min(temper, 2));
      due("temper " + temper, x.best(0, 0, -20, 0), temper * Math.min(temper, 2));
    }
  }

  private static long gladBy(String law) {
    return Book.told("desk;piece up 1;player has 1;glad:" + law + ";").glad(0, 0, 0, 0, 0);
  }

  /** "each + - * is kept from -1,000,000 to 1,000,000": just at, one within and one beyond, for each of the three. */
  static void terms2KeptWithinAMillion() {
    String most = "(999*999+999+999)";
    due("999,999", gladBy(most), 999999);
    due("+ to the bound", gladBy(most + "+1"), 1000000);
    due("+ one beyond", gladBy(most + "+2"), 1000000);
    due("+ far beyond", gladBy(most + "+" + most), 1000000);
    due("kept, then one less", gladBy(most + "+2-1"), 999999);
    due("- to the bound below", gladBy("0-" + most + "-1"), -1000000);
    due("- one beyond", gladBy("0-" + most + "-2"), -1000000);
    due("- far beyond", gladBy("0-" + most + "-" + most), -1000000);
    due("kept, then one more", gladBy("0-" + most + "-2+1"), -999999);
    due("- of one below 0 to the bound", gladBy(most + "-(0-1)"), 1000000);
    due("- of one below 0 beyond", gladBy(most + "-(0-2)"), 1000000);
    due("+ of one below 0 to the bound", gladBy("0-" + most + "+(0-1)"), -1000000);
    due("+ of one below 0 beyond", gladBy("0-" + most + "+(0-2)"), -1000000);
    due("* to the bound", gladBy("500*2*(500*2)"), 1000000);
    due("* one beyond", gladBy("101*(99*100+1)"), 1000000);
    due("* just within", gladBy("(500*2+1)*999"), 999999);
    due("* to the bound below", gladBy("500*2*(0-500*2)"), -1000000);
    due("* beyond below", gladBy("101*(0-(99*100+1))"), -1000000);
    due("* of two below 0", gladBy("(0-500*2)*(0-500*2-1)"), 1000000);
    due("* of the greatest ones", gladBy("(999*999*2)*(999*999*2)"), 1000000);
    due("* of the least ones", gladBy("(0-999*999*2)*(0-999*999*2)"), 1000000);
    due("* of both", gladBy("(0-999*999*2)*(999*999*2)"), -1000000);
    due("each from the left on", gladBy("999*999*2-999*999*2-1"), -1);
    due("each product by itself", gladBy("999*999*999*0"), 0);
    due("all below", gladBy("0-999*999*999-999*999*999"), -1000000);
    due("in may, too", Book.told("desk;piece up 1;player;may:999*999*999=999*999+999+999+1;").comes(0, 0, 2), NONE);
    due("in may, too", Book.told("desk;piece up 1;player;may:999*999*999>999*999+999+999+2;").comes(0, 0, 2), 0);
  }

  /** "AS IT COMES: .. that which makes one most GLAD there, of like ones the least (-2 first)" */
  static void terms2OfLikeOnesTheLeast() {
    due("all alike", Book.told("desk;piece up 0;player;").comes(0, 0, 10), -2);
    due("the bound above leaves -1", Book.told("desk;piece up 0;player has 19;").comes(0, 0, 10), -1);
    due("the bound above leaves 0", Book.told("desk;piece up 0;player has 20;").comes(0, 0, 10), 0);
    due("two are alike", Book.told("desk;piece up 0;player;glad:draw*draw;").comes(0, 0, 10), -2);
    due("two are alike", Book.told("desk;piece up 0;player;glad:draw*draw;may:draw>0-2;").comes(0, 0, 10), 2);
    due("the least gladness of all", Book.told("desk;piece up 0;player;glad:0-999*999*999;").comes(0, 0, 10), -2);
    due("the least gladness of all", Book.told("desk;piece up 0;player;glad:0-999*999*999;").comes(0, 0, 0), -1000000);
  }

  /** "it breaks off at a BAR that may be by none": the first, the last, none. */
  static void terms2BreaksOff() {
    for (int at = 0; at <= 12; at++) {
      RubatoDesk x = Book.told("desk;piece" + Book.times(12, " up 1") + ";player has 20;glad:7;may:not bar=" + at + " and draw=1;");
      due("breaks off", x.comes(0, 0, 2), at == 12 ? NONE : at);
      due("gladness till there", x.comes(0, 0, 0), 7 * at);
      due("the store then", x.comes(0, 0, 1), 20 - at);
      for (int bar = 0; bar < 12; bar++) due("drawn", x.comes(0, 0, 10 + bar), bar < at ? 1 : 9);
      due("played till there", x.play(0, 0), 7 * at);
      due("joy till there", x.player(0, 1), 7 * at);
      due("store till there", x.player(0, 0), 20 - at);
      x.undo(1);
      due("there is a row", x.best(0, 0, -20, 0), at == 12 ? 84 : Book.NO_ROW);
    }
  }

  /** "JOY (0 at first, kept from -9,999,999 to 9,999,999)": just at the bounds, beyond them, and back from there. */
  static void terms2JoyWithinItsBounds() {
    RubatoDesk x = Book.told("desk;piece" + Book.times(9, " up 1") + ";piece up 1;piece up 1;piece up 1;player temper 1;player;may:draw=0;"
        + "glad:(temper*2-1)*((3-piece)*999*999*999);");
    due("at first", x.player(0, 1), 0);
    due("nine bars of a million", x.play(0, 0), 9000000);
    due("joy", x.player(0, 1), 9000000);
    due("a tenth", x.play(0, 1), 1000000);
    due("one less than its greatness", x.player(0, 1), 9999999);
    due("once more", x.perform(0, 0), 9000000);
    due("kept", x.player(0, 1), 9999999);
    due("nothing", x.play(0, 3), 0);
    due("it stays", x.player(0, 1), 9999999);
    x.temper(0, 0);
    due("back from there", x.play(0, 1), -1000000);
    due("back from there", x.player(0, 1), 8999999);
    due("player 1 below", x.play(1, 0), -9000000);
    due("player 1 below", x.perform(1, 1), -1000000);
    due("kept below", x.player(1, 1), -9999999);
    due("kept below", x.play(1, 0), -9000000);
    due("kept below", x.player(1, 1), -9999999);
    x.temper(1, 1);
    due("back from there", x.play(1, 1), 1000000);
    due("back from there", x.player(1, 1), -8999999);
    due("all joy", x.count(4), 0);
  }

  /** "kept from -9,999,999 to 9,999,999": the bound itself is reached without being cut. */
  static void terms2JoyJustAtItsBounds() {
    for (int sign : new int[] {1, -1}) {
      RubatoDesk x = Book.told("desk;piece" + Book.times(9, " up 1") + " up 0;piece up 1;player temper " + (sign > 0 ? 1 : 0) + ";may:draw=0;"
          + "glad:(temper*2-1)*((1-piece)*(999*999+999+998+want*2)+piece);");
      due("nine millions and 999,998", x.play(0, 0), sign * 9999998L);
      due("joy", x.player(0, 1), sign * 9999998L);
      due("1", x.play(0, 1), sign);
      due("just at the bound", x.player(0, 1), sign * 9999999L);
      due("1", x.play(0, 1), sign);
      due("beyond the bound", x.player(0, 1), sign * 9999999L);
      due("the latest is undone", x.undo(1), 2);
      due("just at the bound", x.player(0, 1), sign * 9999999L);
      x.temper(0, sign > 0 ? 0 : 1);
      x.play(0, 1);
      due("one back", x.player(0, 1), sign * 9999998L);
    }
  }

  /** "of one that breaks off, what it had till there" */
  static void terms2JoyOfOneThatBreaksOff() {
    RubatoDesk x = Book.told("desk;piece up 5 up 5 up 5;player has 20;may:bar<2;");
    due("till there", x.play(0, 0), 20);
    due("joy", x.player(0, 1), 20);
    due("store", x.player(0, 0), 16);
    due("it did some", x.count(8), 1);
    x = Book.told("desk;piece up 5;player has 20;may:bar<0;");
    due("at once", x.play(0, 0), 0);
    due("joy", x.player(0, 1), 0);
    due("store", x.player(0, 0), 20);
    due("it did some, for it is played", x.count(8), 1);
  }

  /** "To LEND TICKS to another one: 1 to 40, the own STORE -20 at least then, the other one's 20 at most." */
  static void terms2Lend() {
    RubatoDesk x = Book.told("desk;player has 20;player owes 20;player;player owes 19;player has 19;");
    for (int ticks = -2; ticks <= 42; ticks++) {
      boolean can = ticks >= 1 && ticks <= 40;
      due("lend " + ticks, x.lend(0, 1, ticks), can ? 20 - ticks : Book.WHY1);
      if (can) {
        due("the other one", x.player(1, 0), ticks - 20);
        x.undo(1);
      }
    }
    due("to -20", x.lend(2, 1, 20), -20);
    due("below", x.lend(2, 1, 1), Book.WHY3);
    x.undo(1);
    due("below at once", x.lend(2, 1, 21), Book.WHY3);
    due("1 to -20", x.lend(3, 2, 1), -20);
    x.undo(1);
    due("2 below", x.lend(3, 2, 2), Book.WHY3);
    due("to 20", x.lend(0, 4, 1), 19);
    due("the other one", x.player(4, 0), 20);
    x.undo(1);
    due("above", x.lend(0, 4, 2), Book.WHY3);
    due("a full one", x.lend(4, 0, 1), Book.WHY3);
    due("an empty one", x.lend(1, 2, 1), Book.WHY3);
    due("nothing was lent", x.count(3), 0);
    due("no call can be undone", x.count(8), 0);
  }

  /** "A FRIDAY: who owes (STORE below 0) is BARRED, all others aren't any more; WEEK is 1 more." */
  static void terms2Friday() {
    RubatoDesk x = Book.told("desk;player owes 1;player owes 0;player has 1;player owes 20;player has 20;");
    due("before", x.count(5), 0);
    due("week", x.count(6), 0);
    due("-1 and -20, not 0", x.friday(), 1 + 8);
    due("week", x.count(6), 1);
    x.lend(2, 0, 1);
    due("0 owes no more, but it is no friday", x.count(5), 1 + 8);
    x.lend(1, 3, 1);
    due("1 and 3", x.friday(), 2 + 8);
    due("0 isn't any more", x.player(0, 3), 0);
    due("week", x.count(6), 2);
    due("all five", Book.told("desk;" + Book.times(5, "player owes 1;")).friday(), 31);
    due("nobody", new RubatoDesk().friday(), 0);
    for (int i = 3; i < 60; i++) {
      x.friday();
      due("each week", x.count(6), i);
    }
  }

  /** "Why not: 1 .. 2 it is BARRED (to PLAY)": it bars nothing else. */
  static void terms2BarredOnlyToPlay() {
    RubatoDesk x = Book.told("desk;piece up 1 up 1;player owes 3;player has 5;");
    x.friday();
    due("play", x.play(0, 0), Book.WHY2);
    due("perform", x.perform(0, 0), Book.WHY2);
    due("lend", x.lend(0, 1, 1), -4);
    due("be lent", x.lend(1, 0, 1), 5);
    due("temper", x.temper(0, 1), 0);
    due("comes", x.comes(0, 0, 0), 4);
    due("best", x.best(0, 0, -20, 0), 4);
    due("gladdest by goal 0", x.gladdest(0), 1);
    due("lends", x.lends(1, 0, 0, 0), 1);
    x.lend(1, 0, 4);
    due("still barred though it has", x.play(0, 0), Book.WHY2);
    x.friday();
    due("not any more", x.play(0, 0), 4);
  }

  /** "Why not: 1 no such PLAYER, PIECE, TICKS, temper, both one. 2 .. 3 ..": the least one is answered, in deeds told, too. */
  static void terms2WhyNotInItsOrder() {
    RubatoDesk x = Book.told("desk;piece up 1;player owes 20;player has 20;may:1=2;");
    x.friday();
    long[][] whys = {{1, 1}, {0, 2}, {101, 1}, {100, 2}, {110, 3}, {111, 1}, {20, 1}, {120, 1}, {1001, 1}, {1100, 1}, {1141, 1}, {1101, 3}, {2001, 0}, {2041, 1},
        {2040, 0}, {3001, 1}, {1201, 1}};
    for (long[] w : whys) {
      Book.fill(x, 0, 3, w[0]);
      due("why of " + w[0], x.judge(0, 1), w[1]);
      due("place of " + w[0], x.judge(0, 0), w[1] == 0 ? NONE : 0);
    }
  }

  /** "DEEDS in a TRAY: 0 to 99: PLAYER v by 10 PLAYS PIECE v modulo 10 as it comes; 100 to 199: likewise, best" */
  static void terms2DeedsToPlay() {
    String bars = " up 1 up 2 up 3";
    String text = "desk;" + Book.times(4, "piece" + bars + ";") + Book.times(5, "player owes 18;") + "glad:draw*(want+who*5+piece*7);";
    RubatoDesk x = Book.told(text);
    for (int v = 0; v < 200; v++) {
      if (v % 40 == 0) x = Book.told(text);
      int p = v / 10 % 10, piece = v % 10;
      boolean can = p < 5 && piece < 4;
      Book.fill(x, 0, 1, v);
      due("why of " + v, x.judge(0, 1), can ? 0 : 1);
      due("place of " + v, x.judge(0, 0), can ? NONE : 0);
      due("joy of " + v, x.judge(0, 3), !can ? 0 : v < 100 ? x.comes(p, piece, 0) : x.best(p, piece, -20, 0));
      due("stores of " + v, x.judge(0, 2), !can ? -90 : -72 + (v < 100 ? x.comes(p, piece, 1) : x.best(p, piece, -20, 1)));
    }
    due("best is not as it comes", x.best(0, 0, -20, 0) == x.comes(0, 0, 0) ? 0 : 1, 1);
  }

  /** "1000 to 9999: PLAYER (v - 1000) by 1000 LENDS PLAYER (v by 100) modulo 10 v modulo 100 TICKS" */
  static void terms2DeedsToLend() {
    for (int v = 1000; v <= 9999; v += 7) dueLent(v);
    for (int v : new int[] {1000, 1001, 1100, 1101, 1139, 1140, 1141, 1199, 1500, 1501, 1599, 2001, 2021, 5301, 5399, 5401, 5501, 6001, 9901, 9999}) dueLent(v);
  }

  private static void dueLent(int v) {
    RubatoDesk x = Book.told("desk;player has 20;player owes 20;player;player;player;");
    int[] stores = {20, -20, 0, 0, 0};
    int p = (v - 1000) / 1000, q = v / 100 % 10, ticks = v % 100;
    int why = p > 4 || q > 4 || p == q || ticks < 1 || ticks > 40 ? 1 : stores[p] - ticks < -20 || stores[q] + ticks > 20 ? 3 : 0;
    Book.fill(x, 0, 1, v);
    due("why of " + v, x.judge(0, 1), why);
    due("done of " + v, x.does(0), why == 0 ? 1 : 0);
    if (why == 0) {
      due("the own store of " + v, x.player(p, 0), stores[p] - ticks);
      due("the other one's store of " + v, x.player(q, 0), stores[q] + ticks);
    }
  }

  /** "NONE: a FRIDAY; others: 1": just beyond each range, and far out in a TRAY of 64 bits. */
  static void terms2OtherDeeds() {
    RubatoDesk x = Book.told("desk;piece;player;player;");
    for (long v : new long[] {-2, -3, -100, 200, 201, 500, 999, 10000, 10001, 65536, 1L << 32, (1L << 32) + 100, (1L << 32) - 1, Integer.MIN_VALUE,
        Integer.MAX_VALUE, Long.MIN_VALUE, Long.MAX_VALUE, -1L << 32}) {
      Book.fill(x, 0, 3, v);
      due("why of " + v, x.judge(0, 1), 1);
      due("place of " + v, x.judge(0, 0), 0);
      due("does " + v, x.does(0), 0);
    }
    Book.fill(x, 0, 3, -1);
    due("a friday", x.judge(0, 1), 0);
    due("a friday", x.does(0), 1);
    due("a friday", x.count(6), 1);
    Book.fill(x, 0, 3, 0, 100, 10, 110);
    due("the first ones", x.does(0), 4);
    Book.fill(x, 0, 3, 1101, 2001);
    due("the first ones", x.does(0), 2);
    Book.fill(x, 0, 0, 0);
    due("255 in 8 bits is -1", x.write(0, 0, 255), -1);
    due("a friday", x.does(0), 1);
    due("a friday", x.count(6), 2);
  }

  /** "Calls that did some can be UNDONE each as a whole, the latest first, 10 at most (eldest are forgotten)" */
  static void terms2TenAtMost() {
    for (int calls = 0; calls <= 23; calls++) {
      RubatoDesk x = Book.told("desk;player;");
      for (int i = 1; i <= calls; i++) {
        x.temper(0, i % 10);
        due("can be undone", x.count(8), Math.min(i, 10));
      }
      int can = Math.min(calls, 10);
      due("one more than can be", x.undo(can + 1), Book.BAD);
      for (int i = 1; i <= can; i++) {
        due("undo", x.undo(1), can - i);
        due("the latest first", x.player(0, 2), (calls - i) % 10);
      }
      due("the eldest are forgotten", x.undo(1), Book.BAD);
      due("the eldest are forgotten", x.player(0, 2), (calls - can) % 10);
      x.temper(0, 5);
      due("another one", x.undo(1), 0);
      due("another one", x.player(0, 2), (calls - can) % 10);
    }
  }

  /** "UNDONE: STORES, JOY, TEMPERS, who is BARRED, WEEK", and of all PLAYERS. */
  static void terms2WhatIsUndone() {
    RubatoDesk x = Book.told("desk;piece up 1;" + Book.times(5, "player owes 3 temper 2;"));
    x.friday();
    for (int p = 1; p < 5; p++) due("lend", x.lend(p, 0, 1), -4);
    due("friday", x.friday(), 30);
    String ahead = Book.lookNow(x);
    due("play", x.play(0, 0), 2);
    due("undo", x.undo(1), 6);
    Book.alike("what was played", Book.lookNow(x), ahead);
    due("temper", x.temper(4, 9), 2);
    due("undo", x.undo(1), 6);
    Book.alike("the temper", Book.lookNow(x), ahead);
    due("lend", x.lend(0, 4, 20), -19);
    due("undo", x.undo(1), 6);
    Book.alike("what was lent", Book.lookNow(x), ahead);
    x.lend(0, 4, 20);
    due("friday", x.friday(), 15);
    due("undo both", x.undo(2), 6);
    Book.alike("who is barred and the week", Book.lookNow(x), ahead);
    due("perform", x.perform(0, 0), 2);
    due("undo", x.undo(1), 6);
    Book.alike("what was performed", Book.lookNow(x), ahead);
    due("all", x.undo(6), 0);
    for (int p = 0; p < 5; p++) {
      due("store", x.player(p, 0), -3);
      due("temper", x.player(p, 2), 2);
      due("barred", x.player(p, 3), 0);
    }
    due("week", x.count(6), 0);
  }

  /** "Calls that did some": those that ask, are refused, or did nothing are not among them. */
  static void terms2CallsThatDidSome() {
    RubatoDesk x = Book.rich();
    due("four did", x.count(8), 4);
    Book.look(x);
    x.image(1);
    x.fault(0);
    x.feed(0, 0, 0, 0, 0);
    x.numbers(3, 0, 1);
    x.write(3, 0, -3);
    x.lists(3, 0, 0, 0);
    x.write(3, 0, 99);
    due("nothing of it is done", x.does(3), 0);
    due("no numbers", x.does(2), 0);
    x.play(1, 0);
    x.perform(0, 3);
    x.lend(0, 0, 1);
    x.temper(0, 10);
    x.undo(9);
    due("still four", x.count(8), 4);
    RubatoDesk y = new RubatoDesk();
    for (int seed = 0; seed < 100; seed++) {
      int ahead = y.count(8);
      int done = y.term(seed, 1);
      due("a term that did some", y.count(8), Math.min(10, ahead + done));
      due("of nobody a friday alone can be", y.count(6) >= done ? 1 : 0, 1);
    }
  }

  // ==== 3. best, orders, heard, chances

  /** "with a GOAL (-20 to 20; ..): of all behind which the STORE is the GOAL at least": just it, one above. */
  static void terms3GoalAtLeast() {
    RubatoDesk x = Book.told("desk;piece up 1;player;player has 20;player owes 20;");
    for (int goal = -20; goal <= 20; goal++) {
      due("from 0 to " + goal, x.best(0, 0, goal, 0), goal > 2 ? Book.NO_ROW : -Math.max(goal, -2));
      due("from 20 to " + goal, x.best(1, 0, goal, 0), -Math.max(goal, 18) + 20);
      due("from -20 to " + goal, x.best(2, 0, goal, 0), goal > -18 ? Book.NO_ROW : -Math.max(goal, -20) - 20);
      due("the store then", x.best(0, 0, goal, 1), goal > 2 ? Book.NO_ROW : Math.max(goal, -2));
    }
    for (int goal : new int[] {-22, -21, 21, 22}) due("no goal", x.best(0, 0, goal, 0), Book.BAD);
  }

  /** "the one of greatest GLADNESS, of like ones the first, BAR by BAR (-2 first)" */
  static void terms3OfLikeRowsTheFirst() {
    RubatoDesk x = Book.told("desk;piece up 0 up 0 up 0;player;player has 20;player has 19;");
    for (int bar = 0; bar < 3; bar++) due("all alike", x.best(0, 0, -20, 10 + bar), -2);
    for (int bar = 0; bar < 3; bar++) due("all alike, the store is full", x.best(1, 0, -20, 10 + bar), 0);
    due("all alike, one is left", x.best(2, 0, -20, 10), -1);
    due("all alike, one is left", x.best(2, 0, -20, 11), 0);
    x = Book.told("desk;piece up 1 up 1 up 1;player;");
    due("0 in the end", x.best(0, 0, 0, 10), -2);
    due("0 in the end", x.best(0, 0, 0, 11), 0);
    due("0 in the end", x.best(0, 0, 0, 12), 2);
  }

  /** "With any end: with -20": to PLAY best goes down to -20, not beyond. */
  static void terms3AnyEnd() {
    for (int owes = 15; owes <= 20; owes++) {
      RubatoDesk x = Book.told("desk;piece up 1 up 1;player owes " + owes + ";");
      int most = Math.min(4, 20 - owes);
      due("best", x.best(0, 0, -20, 0), most);
      due("perform", x.perform(0, 0), most);
      due("the store then", x.player(0, 0), -owes - most);
    }
  }

  /** A PIECE without BARS has one ROW, of no BAR: its GLADNESS is 0, the STORE stays. */
  static void terms3RowOfNoBar() {
    RubatoDesk x = Book.told("desk;piece;player has 3;player;glad:5;may:1=2;slips 10;");
    due("one", x.rows(0, 0, 3), 1);
    due("no other end", x.rows(0, 0, 2), 0);
    due("gladness", x.best(0, 0, 3, 0), 0);
    due("store", x.best(0, 0, 3, 1), 3);
    due("bar", x.best(0, 0, 3, 10), 9);
    due("the goal", x.best(0, 0, 4, 0), Book.NO_ROW);
    due("comes", x.comes(0, 0, 0), 0);
    due("comes", x.comes(0, 0, 1), 3);
    due("comes", x.comes(0, 0, 2), NONE);
    due("thriftiest", x.thriftiest(0, 0), 3);
    due("least", x.least(0, 0, -20, 0), -20);
    due("least", x.least(0, 0, 20, 0), 20);
    due("least", x.least(0, 0, 0, 1), Book.NO_ROW);
    due("squarest", x.squarest(0, 0), 3);
    due("order", x.order(0, 1, 3, 0), 0);
    due("mostPieces", x.mostPieces(0, 3), 1);
    due("mostPieces", x.mostPieces(0, 4), 0);
    due("gladdest", x.gladdest(0), 0);
    due("lends", x.lends(0, 0, 1, 0), 0);
    due("reply", x.reply(0, 1, 0, 0), 0);
    due("chance", x.chance(0, 0, 3, 0), 1);
    due("chance", x.chance(0, 0, 4, 0), 0);
    due("putBy", x.putBy(0, 0, 100), 0);
    Book.fill(x, 0, 0);
    due("heard", x.heard(0, 0, 0, 99), 1);
    due("tempers", x.tempers(0, 0, 0), 1023);
    due("next", x.next(0, 0, 0), NONE);
    due("lists", x.lists(0, 0, 0, 3), 0);
    due("perform", x.perform(0, 0), 0);
    due("play", x.play(0, 0), 0);
    due("both did some", x.count(8), 2);
  }

  /** "AN ORDER: one behind the other, each once; each with a ROW, the last one's STORE the GOAL at least" */
  static void terms3OrderGoal() {
    RubatoDesk x = Book.told("desk;piece up 1;piece up 1;piece up 1;piece up 1;player;");
    for (int goal = -20; goal <= 20; goal++) {
      due("four to " + goal, x.order(0, 15, goal, 0), goal > 8 ? Book.NO_ROW : -Math.max(goal, -8));
      due("one to " + goal, x.order(0, 4, goal, 0), goal > 2 ? Book.NO_ROW : -Math.max(goal, -2));
    }
    due("only the last one's store is told", Book.told("desk;piece up 1;piece down 1;player;").order(0, 3, 0, 0), 4);
    due("a row is not to be broken off", Book.told("desk;piece up 1;piece up 1;player;may:piece=1;").order(0, 3, -20, 0), Book.NO_ROW);
    due("the store's bounds", Book.told("desk;piece up 9;piece up 9;player owes 18;").order(0, 3, -20, 0), 18);
  }

  /** "of like ones the first by PIECES" */
  static void terms3OrderFirstByPieces() {
    RubatoDesk x = Book.told("desk;piece up 1;piece up 1;piece up 1;piece up 1;player;");
    for (int set = 1; set < 16; set++) {
      int place = 0;
      for (int piece = 0; piece < 4; piece++) if ((set >> piece & 1) != 0) due("set " + set, x.order(0, set, 0, 10 + place++), piece);
      for (; place < 4; place++) due("not so many of " + set, x.order(0, set, 0, 10 + place), NONE);
    }
    x = Book.told("desk;piece up 1;piece up 1;piece up 1;piece up 1;player has 20;may:draw=1;glad:(20-store)*piece;");
    for (int place = 0; place < 4; place++) due("by store", x.order(0, 15, 0, 10 + place), place);
    x = Book.told("desk;piece up 1;piece up 1;piece up 1;piece up 1;player has 20;may:draw=1;glad:store*piece;");
    for (int place = 0; place < 4; place++) due("the other way round", x.order(0, 15, 0, 10 + place), 3 - place);
  }

  /** "A REPLY: .. 1 at most from the first one's BEST ROW with the GOAL 0": the neighbours, within -2 to 2. */
  static void terms3ReplyOneAtMost() {
    for (int draw = -2; draw <= 2; draw++) {
      String first = "(draw - " + (draw + 2) + " + 2) * (draw - " + (draw + 2) + " + 2)";
      RubatoDesk least = Book.told("desk;piece up 1;player has 9;player has 9;glad:(who-1)*999*" + first + "-who*draw;");
      due("the first one's", least.best(0, 0, 0, 10), draw);
      due("the least reply", least.reply(0, 1, 0, 10), Math.max(-2, draw - 1));
      due("its gladness", least.reply(0, 1, 0, 0), -Math.max(-2, draw - 1));
      RubatoDesk most = Book.told("desk;piece up 1;player has 9;player has 9;glad:(who-1)*999*" + first + "+who*draw;");
      due("the greatest reply", most.reply(0, 1, 0, 10), Math.min(2, draw + 1));
      RubatoDesk like = Book.told("desk;piece up 1;player has 9;player has 9;glad:(who-1)*999*" + first + ";");
      due("of like ones the first", like.reply(0, 1, 0, 10), Math.max(-2, draw - 1));
    }
  }

  /** "behind which its own STORE is 0 at least", and "the first one's BEST ROW with the GOAL 0" */
  static void terms3ReplySquare() {
    for (int has = 0; has <= 4; has++) {
      RubatoDesk x = Book.told("desk;piece up 1 up 1;player has 20;player has " + has + ";");
      due("the first one's", x.best(0, 0, 0, 0), 4);
      due("the reply", x.reply(0, 1, 0, 0), has < 2 ? Book.NO_ROW : Math.min(4, has));
      due("the store then", x.reply(0, 1, 0, 1), has < 2 ? Book.NO_ROW : Math.max(0, has - 4));
    }
    due("the first one's goal is 0: -2 2, so one who has 20 can't reply", Book.told("desk;piece up 1 up 1;player;player has 20;").reply(0, 1, 0, 0), Book.NO_ROW);
    due("one who has 19 replies -1 2", Book.told("desk;piece up 1 up 1;player;player has 19;").reply(0, 1, 0, 0), 1);
    due("one who owes 4 can be square by a row of -2 -2",
        Book.told("desk;piece up 1 up 1;player owes 4;player owes 2;").reply(0, 1, 0, 0), -2);
    due("one who owes 5 can't", Book.told("desk;piece up 1 up 1;player owes 5;player;").reply(0, 1, 0, 0), Book.NO_ROW);
  }

  /** "HEARD in a TRAY (as many numbers as the PIECE has BARS: by how much each was DRAWN out; 9: not heard)" */
  static void terms3HeardNumbers() {
    RubatoDesk x = Book.told("desk;piece up 1 up 1;player;");
    for (int n = 0; n <= 40; n++) {
      due("numbers", x.numbers(0, 0, n), 0);
      due(n + " of 2", x.heard(0, 0, 0, 99), n == 2 ? 1 : Book.TOO_MANY);
    }
    for (int number = -5; number <= 12; number++) {
      boolean heard = number >= -2 && number <= 2;
      Book.fill(x, 0, 0, number, 1);
      due("heard " + number, x.heard(0, 0, 0, 99), heard ? 1 : number == 9 ? 5 : Book.BAD);
      Book.fill(x, 0, 0, -1, number);
      due("heard behind " + number, x.heard(0, 0, 0, 99), heard ? 1 : number == 9 ? 5 : Book.BAD);
    }
    Book.fill(x, 0, 0, 9, 9);
    due("nothing heard", x.heard(0, 0, 0, 99), 25);
    String twelve = "desk;piece" + Book.times(12, " up 1") + ";player;";
    due("twelve", Book.tell(x, twelve), 3);
    Book.fill(x, 0, 3, 9, 9, 9, 9, 9, 9, 9, 9, 9, 9, 9, 2);
    long all = 0;
    for (int end = -20; end <= 20; end++) all += x.heard(0, 0, 0, end);
    due("twelve, all ends", x.heard(0, 0, 0, 99), all);
    x.write(0, 11, 3);
    due("the twelfth can't be", x.heard(0, 0, 0, 99), Book.BAD);
    due("thirteen", x.numbers(0, 3, 13), 0);
    due("thirteen", x.heard(0, 0, 0, 99), Book.TOO_MANY);
    due("eleven", x.numbers(0, 3, 11), 0);
    due("eleven", x.heard(0, 0, 0, 99), Book.TOO_MANY);
  }

  /** "TEMPERS 0 to 9 of a PLAYER by which AS IT COMES a PIECE is .. as HEARD (its STORE as now; it doesn't break off)." */
  static void terms3Tempers() {
    RubatoDesk x = Book.told("desk;piece up 1 up 1;player has 5 temper 4;may:draw=0 and store=5 and bar*(temper+1)<9;");
    Book.fill(x, 0, 0, 0, 0);
    due("0 to 7, for by 8 and 9 it breaks off at bar 1", x.tempers(0, 0, 0), 255);
    Book.fill(x, 0, 0, 9, 9);
    due("not heard, and still they break off", x.tempers(0, 0, 0), 255);
    Book.fill(x, 0, 0, 1, 9);
    due("by none", x.tempers(0, 0, 0), 0);
    x = Book.told("desk;piece up 1;player temper 4;may:draw=0 and [temper=0 or temper=9];");
    Book.fill(x, 0, 0, 0);
    due("the least and the greatest", x.tempers(0, 0, 0), 1 + 512);
    due("the temper stays", x.player(0, 2), 4);
    x = Book.told("desk;piece up 1;player has 5;player;may:store=5;");
    Book.fill(x, 0, 0, 9);
    due("its store as now", x.tempers(0, 0, 0), 1023);
    due("its store as now", x.tempers(0, 1, 0), 0);
    x.lend(0, 1, 5);
    due("its store as now", x.tempers(0, 0, 0), 0);
    due("its store as now", x.tempers(0, 1, 0), 1023);
  }

  /** "CHANCE: .. DRAWN out by 1 more than it would be, if that may be (2 at most; else as it would)" */
  static void terms3ChanceOfASlip() {
    String[] glads = {"0-draw", "0-(draw+1)*(draw+1)", "0-draw*draw", "0-(draw-1)*(draw-1)", "draw"};
    for (int i = 0; i < 5; i++) {
      int draw = i - 2;
      RubatoDesk x = Book.told("desk;piece up 1;player;slips 10;glad:" + glads[i] + ";");
      due("as it would be", x.comes(0, 0, 10), draw);
      int slip = Math.min(2, draw + 1);
      due("one more, 2 at most", x.chance(0, 0, -slip, 0), 1);
      due("not two more", x.chance(0, 0, -slip + 1, 0), 0);
    }
    RubatoDesk x = Book.told("desk;piece down 1;player;slips 10;may:not draw=0-1;");
    due("a slip that the law forbids", x.chance(0, 0, 2, 0), 1);
    for (int owes = 18; owes <= 20; owes++) {
      x = Book.told("desk;piece up 1;player owes " + owes + ";slips 10;glad:0-(draw-1)*(draw-1);");
      int end = Math.max(-20, -owes - 2);
      due("a slip that the store forbids", x.chance(0, 0, end, 0), 1);
      due("a slip that the store forbids", end == 20 ? 0 : x.chance(0, 0, end + 1, 0), 0);
    }
  }

  /** "how likely it goes to the end, the STORE a GOAL at least then, in lowest terms" */
  static void terms3ChanceInLowestTerms() {
    long[][] terms = {{1, 1}, {9, 10}, {4, 5}, {7, 10}, {3, 5}, {1, 2}, {2, 5}, {3, 10}, {1, 5}, {1, 10}, {0, 1}};
    for (int slips = 0; slips <= 10; slips++) {
      RubatoDesk x = Book.told("desk;piece down 1;player;slips " + slips + ";");
      due("above, slips " + slips, x.chance(0, 0, 2, 0), terms[slips][0]);
      due("below, slips " + slips, x.chance(0, 0, 2, 1), terms[slips][1]);
      due("sure, above", x.chance(0, 0, 1, 0), 1);
      due("sure, below", x.chance(0, 0, 1, 1), 1);
      due("never, above", x.chance(0, 0, 3, 0), 0);
      due("never, below", x.chance(0, 0, 3, 1), 1);
      for (int goal : new int[] {-20, 20}) due("goal " + goal, x.chance(0, 0, goal, 0), goal < 0 ? 1 : 0);
      x = Book.told("desk;piece down 1 down 1;player;slips " + slips + ";may:1=2;");
      due("it breaks off", x.chance(0, 0, -20, 0), 0);
      due("it breaks off", x.chance(0, 0, -20, 1), 1);
    }
    RubatoDesk x = Book.told("desk;piece" + Book.times(12, " down 1") + ";player owes 20;slips 3;");
    long above = 1;
    for (int i = 0; i < 12; i++) above *= 7;
    due("twelve bars, above", x.chance(0, 0, 4, 0), above);
    due("twelve bars, below", x.chance(0, 0, 4, 1), 1000000000000L);
    x = Book.told("desk;piece" + Book.times(12, " down 1") + ";player owes 20;slips 5;");
    due("twelve bars, halves", x.chance(0, 0, 4, 0), 1);
    due("twelve bars, halves", x.chance(0, 0, 4, 1), 4096);
    due("all slip but none is lost", x.chance(0, 0, -8, 0), 1);
    due("once not", x.chance(0, 0, -7, 0), 4095);
    due("once not", x.chance(0, 0, -7, 1), 4096);
  }

  /** The draws of a term by the document's words, in longs: "x becomes 1103515245 x + 12345, it is x >>> 16" */
  private static int[] draws(int seed, int n) {
    int[] all = new int[n];
    long x = seed & 0xFFFFFFFFL;
    for (int i = 0; i < n; i++) {
      x = (x * 1103515245L + 12345L) % 4294967296L;
      all[i] = (int) (x / 65536);
    }
    return all;
  }

  /** A seed whose first draws leave what is wanted of them by 5, 5, 5, 9 or 10; any: NONE. */
  private static int seedFor(int[] modulo, int[] wanted) {
    for (int seed = -1000000; seed < 1000000; seed++) {
      int[] d = draws(seed, modulo.length);
      boolean is = true;
      for (int i = 0; i < modulo.length && is; i++) is = wanted[i] == NONE || d[i] % modulo[i] == wanted[i];
      if (is) return seed;
    }
    throw new IllegalStateException("no seed");
  }

  /** "DRAW modulo 5: 0 a FRIDAY; 1 .. as it comes; 2 best; 3 .. 1 and DRAW modulo 9 TICKS; 4 .. TEMPER DRAW modulo 10" */
  static void terms3TermByDraws() {
    RubatoDesk x = Book.told("desk;piece up 1 up 2 up 3;piece;piece;piece;" + Book.times(5, "player owes 18;"));
    due("friday", x.term(seedFor(new int[] {5}, new int[] {0}), 1), 1);
    due("friday", x.count(5), 31);
    due("friday", x.count(6), 1);
    x.undo(1);
    for (int p = 0; p < 5; p++) {
      due("play", x.term(seedFor(new int[] {5, 5, 5}, new int[] {1, p, 0}), 1), 1);
      due("as it comes", x.player(p, 1), 2);
      x.undo(1);
      due("perform", x.term(seedFor(new int[] {5, 5, 5}, new int[] {2, p, 0}), 1), 1);
      due("best: -2 2 2", x.player(p, 1), 8);
      x.undo(1);
      due("piece 4", x.term(seedFor(new int[] {5, 5, 5}, new int[] {1, p, 4}), 1), 0);
      due("piece 4", x.term(seedFor(new int[] {5, 5, 5}, new int[] {2, p, 4}), 1), 0);
      due("both one", x.term(seedFor(new int[] {5, 5, 5}, new int[] {3, p, p}), 1), 0);
      for (int n = 0; n < 10; n++) {
        due("temper", x.term(seedFor(new int[] {5, 5, 10}, new int[] {4, p, n}), 1), 1);
        due("temper", x.player(p, 2), n);
        x.undo(1);
      }
    }
    due("lend 1", x.term(seedFor(new int[] {5, 5, 5, 9}, new int[] {3, 1, 0, 0}), 1), 1);
    due("lend 1", x.player(1, 0), -19);
    due("lent 1", x.player(0, 0), -17);
    x.undo(1);
    due("lend 3: it can't be", x.term(seedFor(new int[] {5, 5, 5, 9}, new int[] {3, 1, 0, 2}), 1), 0);
    due("nothing can be undone", x.count(8), 0);
    x = Book.told("desk;" + Book.times(5, "player has 10;"));
    due("lend 9", x.term(seedFor(new int[] {5, 5, 5, 9}, new int[] {3, 4, 2, 8}), 1), 1);
    due("lend 9", x.player(4, 0), 1);
    due("lent 9", x.player(2, 0), 19);
  }

  /** "so many times (1 to 40)", "a SEED (x, an int ..)": the draws go over an int's bounds and come back. */
  static void terms3TermTimesAndSeeds() {
    RubatoDesk nobody = new RubatoDesk();
    for (int times = -1; times <= 42; times++) {
      int due = 0;
      int at = 0;
      int[] d = draws(77, 400);
      for (int i = 0; i < times; i++) {
        int sort = d[at++] % 5;
        at += sort == 0 ? 0 : sort == 3 ? 3 : 2;
        if (sort == 0) due++;
      }
      due("term of " + times, nobody.term(77, times), times < 1 || times > 40 ? Book.BAD : due);
    }
    for (int seed : new int[] {0, 1, -1, 12345, -12345, 0x7fff, 0x8000, 0xffff, 0x10000, Integer.MIN_VALUE, Integer.MAX_VALUE, Integer.MIN_VALUE + 1}) {
      RubatoDesk x = Book.told("desk;piece up 3 down 1;piece down 2;player;player has 5;player owes 3;"), y = Book.told("desk;piece up 3 down 1;piece down 2;player;player has 5;player owes 3;");
      int[] d = draws(seed, 400);
      int at = 0, done = 0;
      for (int i = 0; i < 40; i++) {
        int sort = d[at++] % 5;
        int a = sort == 0 ? 0 : d[at++] % 5, b = sort == 0 ? 0 : d[at++] % (sort == 4 ? 10 : 5), c = sort == 3 ? 1 + d[at++] % 9 : 0;
        long got = sort == 0 ? y.friday() : sort == 1 ? y.play(a, b) : sort == 2 ? y.perform(a, b) : sort == 3 ? y.lend(a, b, c) : y.temper(a, b);
        if (got > -90000000) done++;
      }
      due("term by " + seed, x.term(seed, 40), done);
      due("one call", x.count(8), done > 0 ? 1 : 0);
      for (int p = 0; p < 3; p++) for (int what = 0; what < 4; what++) due("player by " + seed, x.player(p, what), y.player(p, what));
      due("week by " + seed, x.count(6), y.count(6));
      due("undone as a whole", x.undo(1), 0);
      due("week", x.count(6), 0);
      due("joy", x.count(4), 0);
    }
  }

  /** "TRAYS 0 to 3 are MISSING at first, or have 0 to 40 numbers of 8 bits (sort 0), 16 (1), 32 (2), 64 (3)." */
  static void terms3Trays() {
    RubatoDesk x = new RubatoDesk();
    for (int tray = -1; tray <= 4; tray++) {
      due("tray " + tray, x.does(tray), tray < 0 || tray > 3 ? Book.NO_SUCH : Book.MISSING);
      due("write to " + tray, x.write(tray, 0, 0), tray < 0 || tray > 3 ? Book.NO_SUCH : Book.MISSING);
    }
    int[] bits = {8, 16, 32, 64};
    for (int tray = 0; tray < 4; tray++) {
      for (int n : new int[] {0, 1, 39, 40}) {
        x = new RubatoDesk();
        for (int sort = 0; sort < 4; sort++) {
          due("numbers", x.numbers(tray, sort, n), 0);
          for (int i = -1; i <= 40; i++) due("number " + i + " of " + n, x.write(tray, i, 5), i < 0 || i >= n ? Book.NO_NUMBER : 5);
          long most = Long.MAX_VALUE >> 64 - bits[sort], least = -most - 1;
          if (n > 0) {
            due("the most", x.write(tray, 0, most), most);
            due("one more", x.write(tray, 0, most + 1), least);
            due("the least", x.write(tray, n - 1, least), least);
            due("one less", x.write(tray, n - 1, least - 1), most);
          }
        }
        for (int other = 0; other < 4; other++) if (other != tray) due("the others are still missing", x.does(other), Book.MISSING);
      }
      for (int n : new int[] {-1, 41}) due("numbers " + n, x.numbers(tray, 0, n), Book.BAD);
    }
    due("sort 4", x.numbers(0, 4, 1), Book.NO_SUCH);
    due("sort -1", x.numbers(0, -1, 1), Book.NO_SUCH);
  }

  /** "IMAGES 0 to 1: THE DESK and what a call could bring back by UNDOING; nothing can be UNDONE behind (none at first)." */
  static void terms3Images() {
    RubatoDesk x = new RubatoDesk();
    for (int i = -1; i <= 2; i++) due("none at first " + i, x.restore(i), i < 0 || i > 1 ? Book.NO_SUCH : Book.NOT_NOW);
    for (int i = -1; i <= 2; i++) due("image " + i, x.image(i), i < 0 || i > 1 ? Book.NO_SUCH : 0);
    x = Book.rich();
    due("image 1", x.image(1), 0);
    due("behind making one all can be undone still", x.count(8), 4);
    String ahead = Book.look(x);
    x.undo(4);
    x.friday();
    due("the tape is read away", x.desk(0), Book.FAULT - 2);
    due("another desk", Book.tell(x, "desk;player has 7;"), 2);
    x.friday();
    due("restore", x.restore(1), 0);
    due("nothing can be undone behind", x.count(8), 0);
    due("nothing can be undone behind", x.undo(1), Book.BAD);
    String[] was = ahead.split(" "), is = Book.look(x).split(" ");
    was[8] = "0";
    Book.alike("as it was", String.join(" ", is), String.join(" ", was));
    due("image 0 is another one", x.restore(0), 0);
    due("week", x.count(6), 0);
    due("joy", x.count(4), 12);
    due("store", x.player(2, 0), 20);
    due("a deed", x.friday(), 2);
    due("can be undone", x.undo(1), 0);
  }

  /** "Refused calls .. answer by a code: -99000000 and what is told below": no answer that is none goes so low. */
  static void terms3NoAnswerIsLikeACode() {
    RubatoDesk x = Book.told("desk;" + Book.times(4, "piece" + Book.times(12, " up 1") + ";") + "player;glad:0-999*999*999;");
    due("the least of all rows", x.best(0, 0, -20, 0), -12000000);
    due("the least of all orders", x.order(0, 15, -20, 0), -48000000);
    due("the least of all joy", x.play(0, 0), -12000000);
    x = Book.told("desk;piece;" + Book.times(5, "player has 20;"));
    due("stores together", x.count(3), 100);
    x = Book.told("desk;piece" + Book.times(12, " up 1") + ";" + Book.times(5, "player;") + "glad:0-999*999*999;may:draw=0;");
    for (int p = 0; p < 5; p++) x.play(p, 0);
    due("all joy", x.count(4), -49999995);
    Book.fill(x, 0, 0);
    due("all joy", x.judge(0, 3), -49999995);
  }
}
