/** The boundary cases that the document's "Terms" name: a test for each sentence, named after its part and paragraph. */
public final class TermsBoundaryTests {
  private static final int NONE = Book.NONE;

  public static void main(String[] args) {
    Book.run(TermsBoundaryTests.class);
    Book.end();
  }

  private static void due(String what, long got, long want) {
    Book.due(what, got, want);
  }

  // ==== 1. the text

  /** A text of n bytes: blanks in front, the desk's word and sign at its end. */
  private static String longText(int n) {
    return " ".repeat(n - 5) + "desk;";
  }

  /** "THE DESK is a TEXT of at most 900 bytes" */
  static void terms1TextOfAtMost900Bytes() {
    for (int n : new int[] {5, 880, 881, 899, 900}) {
      RubatoDesk x = new RubatoDesk();
      Book.feedText(x, longText(n));
      due("a text of " + n, x.desk(n), 1);
    }
    RubatoDesk x = new RubatoDesk();
    due("of 901 but 900 are taken", Book.feedText(x, longText(901)), Book.NOT_NOW);
    due("901 can't be read", x.desk(901), Book.BAD);
    due("of 900 the last sign is missing", x.desk(900), Book.FAULT - 2);
    due("its place", x.fault(1), 900);
  }

  /** "(without one: no PIECES, no PLAYERS)" */
  static void terms1WithoutAText() {
    RubatoDesk x = new RubatoDesk();
    due("pieces", x.count(0), 0);
    due("players", x.count(1), 0);
    due("a faulty text tells none", Book.tell(x, "desk;piece;player;?"), Book.FAULT - 1);
    due("pieces", x.count(0), 0);
    due("players", x.count(1), 0);
    due("lines", x.count(10), 0);
  }

  /** "desk ; { LINE ; }": no line, one, many; each with its sign. */
  static void terms1Lines() {
    Book.right("desk;", 1);
    Book.right("desk;slips 0;", 2);
    Book.right("desk;" + Book.times(111, "slips 1;"), 112);
    Book.faulty("desk", 2, 4);
    Book.faulty(";", 2, 0);
    Book.faulty("desk;;", 2, 5);
    Book.faulty("desk;slips 0", 2, 12);
    Book.faulty("desk;slips 0;;", 2, 13);
    Book.faulty("desk slips 0;", 2, 5);
    Book.faulty("desk;slips 0 slips 0;", 2, 13);
    Book.faulty("desk:", 2, 4);
  }

  /** "LINE: piece { BAR } | player { FLAG } | glad : SUM | may : TRUTH | slips N." */
  static void terms1WhatALineIs() {
    Book.right("desk;piece;player;glad:1;may:1=1;slips 1;", 6);
    for (String word : new String[] {"up 1", "down 1", "has 1", "owes 1", "temper 1", "who", "bar", "want", "draw", "last", "store", "or", "and", "not",
        "pieces", "piec", "players", "slip", "x", "1", "999", "(", "[", ":", "+"}) {
      Book.faulty("desk;" + word + ";", 2, 5);
    }
    Book.faulty("desk;slips;", 2, 10);
    Book.faulty("desk;slips 1 1;", 2, 13);
    Book.faulty("desk;slips :1;", 2, 11);
    Book.faulty("desk;glad;", 2, 9);
    Book.faulty("desk;glad 1;", 2, 10);
    Book.faulty("desk;glad:;", 2, 10);
    Book.faulty("desk;may;", 2, 8);
    Book.faulty("desk;may 1=1;", 2, 9);
    Book.faulty("desk;may:;", 2, 9);
    Book.faulty("desk;piece:;", 2, 10);
    Book.faulty("desk;player:;", 2, 11);
  }

  /** "BAR: up N | down N.   FLAG: has N | owes N | temper N." */
  static void terms1BarsAndFlags() {
    Book.right("desk;piece up 0 down 0;player has 0 owes 0 temper 0;", 3);
    Book.faulty("desk;piece up;", 2, 13);
    Book.faulty("desk;piece down;", 2, 15);
    Book.faulty("desk;piece up down 1;", 2, 14);
    Book.faulty("desk;piece 1;", 2, 11);
    Book.faulty("desk;piece up 1 1;", 2, 16);
    Book.faulty("desk;piece has 1;", 2, 11);
    Book.faulty("desk;piece temper 1;", 2, 11);
    Book.faulty("desk;piece up (1);", 2, 14);
    Book.faulty("desk;piece up -1;", 2, 14);
    Book.faulty("desk;player has;", 2, 15);
    Book.faulty("desk;player owes;", 2, 16);
    Book.faulty("desk;player temper;", 2, 18);
    Book.faulty("desk;player has 1 up 1;", 2, 18);
    Book.faulty("desk;player 1;", 2, 12);
    Book.faulty("desk;player has -1;", 2, 16);
    Book.faulty("desk;player has 1 1;", 2, 18);
  }

  /** "TRUTH: BOTH { or BOTH }; BOTH: UNIT { and UNIT }": one, many; none is missing at either side. */
  static void terms1TruthAndBoth() {
    Book.right("desk;may:1=1;", 2);
    Book.right("desk;may:1=1 or 1=1;", 2);
    Book.right("desk;may:1=1 and 1=1;", 2);
    Book.right("desk;may:1=1" + Book.times(126, " or 1=1") + ";", 2);
    Book.right("desk;may:1=1" + Book.times(110, " and 1=1") + ";", 2);
    Book.faulty("desk;may:or 1=1;", 2, 9);
    Book.faulty("desk;may:and 1=1;", 2, 9);
    Book.faulty("desk;may:1=1 or;", 2, 15);
    Book.faulty("desk;may:1=1 and;", 2, 16);
    Book.faulty("desk;may:1=1 or or 1=1;", 2, 16);
    Book.faulty("desk;may:1=1 and or 1=1;", 2, 17);
    Book.faulty("desk;may:1=1 1=1;", 2, 13);
    Book.faulty("desk;glad:1 or 1;", 2, 12);
    Book.faulty("desk;glad:1 and 1;", 2, 12);
  }

  /** "UNIT: not UNIT, [ TRUTH ], or SUM, one of = < >, SUM" */
  static void terms1Unit() {
    Book.right("desk;may:1=1;may:1<1;may:1>1;", 4);
    Book.right("desk;may:not 1=1;may:[1=1];may:not[1=1 or 1=1 and 1=1];", 4);
    Book.faulty("desk;may:not;", 2, 12);
    Book.faulty("desk;may:not or;", 2, 13);
    Book.faulty("desk;may:[];", 2, 10);
    Book.faulty("desk;may:[1];", 2, 11);
    Book.faulty("desk;may:[1=1;", 2, 13);
    Book.faulty("desk;may:1=1];", 2, 12);
    Book.faulty("desk;may:[1=1);", 2, 13);
    Book.faulty("desk;may:1;", 2, 10);
    Book.faulty("desk;may:=1;", 2, 9);
    Book.faulty("desk;may:1=;", 2, 11);
    Book.faulty("desk;may:1==1;", 2, 11);
    Book.faulty("desk;may:1<=1;", 2, 11);
    Book.faulty("desk;may:1=1=1;", 2, 12);
    Book.faulty("desk;may:1<1>1;", 2, 12);
    Book.faulty("desk;may:1=not 1=1;", 2, 11);
    Book.faulty("desk;may:1=[1=1];", 2, 11);
    Book.faulty("desk;may:[1=1]=1;", 2, 14);
    Book.faulty("desk;glad:1=1;", 2, 11);
    Book.faulty("desk;glad:not 1=1;", 2, 10);
    Book.faulty("desk;glad:[1=1];", 2, 10);
  }

  /** "SUM: TERM { + TERM | - TERM }; TERM: ATOM { * ATOM }": one, many; no sign stands in front or behind. */
  static void terms1SumAndTerm() {
    Book.right("desk;glad:1;glad:1+1;glad:1-1;glad:1*1;glad:1+1-1*1;", 6);
    Book.right("desk;glad:1" + Book.times(440, "*1") + ";", 2);
    Book.right("desk;glad:1" + Book.times(440, "-1") + ";", 2);
    Book.faulty("desk;glad:+1;", 2, 10);
    Book.faulty("desk;glad:-1;", 2, 10);
    Book.faulty("desk;glad:*1;", 2, 10);
    Book.faulty("desk;glad:1+;", 2, 12);
    Book.faulty("desk;glad:1-;", 2, 12);
    Book.faulty("desk;glad:1*;", 2, 12);
    Book.faulty("desk;glad:1+-1;", 2, 12);
    Book.faulty("desk;glad:1**1;", 2, 12);
    Book.faulty("desk;glad:1 1;", 2, 12);
    Book.faulty("desk;glad:who who;", 2, 14);
  }

  /** "ATOM: N, ( SUM ), who, temper, piece, bar, want, draw, last, store" and no other word. */
  static void terms1Atom() {
    for (String atom : new String[] {"0", "000", "999", "(1)", "who", "temper", "piece", "bar", "want", "draw", "last", "store"}) {
      Book.right("desk;glad:" + atom + ";may:" + atom + "=" + atom + ";", 3);
    }
    for (String word : new String[] {"desk", "player", "glad", "may", "slips", "up", "down", "has", "owes", "or", "and", "not", "joy", "wants", "stor", "tempers"}) {
      Book.faulty("desk;glad:" + word + ";", 2, 10);
      Book.faulty("desk;glad:1*" + word + ";", 2, 12);
      if (!word.equals("not")) Book.faulty("desk;may:" + word + "=1;", 2, 9);
    }
    Book.faulty("desk;glad:();", 2, 11);
    Book.faulty("desk;glad:(1;", 2, 12);
    Book.faulty("desk;glad:1);", 2, 11);
    Book.faulty("desk;glad:(1];", 2, 12);
    Book.faulty("desk;glad:(1=1);", 2, 12);
    Book.faulty("desk;glad:1(1);", 2, 11);
  }

  /** "At most six of not [ ( within one another": six are right, the seventh is not, of one kind and of all kinds. */
  static void terms1SixWithinOneAnother() {
    for (int outer = 0; outer <= 7; outer++) {
      for (int kinds = 0; kinds < 1 << outer; kinds++) {
        if (outer <= 6) Book.right(nested(outer, kinds, 6 - outer), 2);
        String seven = nested(outer, kinds, 7 - outer);
        Book.faulty(seven, 4, placeOfSeventh(seven));
        if (outer < 6) {
          String behind = nestedBehind(outer, kinds, 7 - outer);
          Book.right(nestedBehind(outer, kinds, 6 - outer), 2);
          Book.faulty(behind, 4, placeOfSeventh(behind));
        }
      }
    }
  }

  /** Of not and [ as the bits of kinds tell, within them brackets around the number ahead of the sign. */
  private static String nested(int outer, int kinds, int inner) {
    return opened(outer, kinds) + "(".repeat(inner) + "1" + ")".repeat(inner) + "=1" + "]".repeat(Integer.bitCount(kinds)) + ";";
  }

  private static String nestedBehind(int outer, int kinds, int inner) {
    return opened(outer, kinds) + "1=" + "(".repeat(inner) + "1" + ")".repeat(inner) + "]".repeat(Integer.bitCount(kinds)) + ";";
  }

  private static String opened(int outer, int kinds) {
    StringBuilder b = new StringBuilder("desk;may:");
    for (int i = 0; i < outer; i++) b.append((kinds >> i & 1) != 0 ? "[" : "not ");
    return b.toString();
  }

  private static int placeOfSeventh(String text) {
    int seen = 0;
    for (int i = 9; i < text.length(); i++) {
      if ("n[(".indexOf(text.charAt(i)) >= 0 && ++seen == 7) return i;
    }
    return NONE;
  }

  /** "within one another": what stands beside it, closed, doesn't count. */
  static void terms1SixBesideOneAnother() {
    Book.right("desk;glad:((((((1))))))+((((((1))))))*((((((1))))));", 2);
    Book.right("desk;glad:(1)+(1)+(1)+(1)+(1)+(1)+(1)+(1);", 2);
    Book.right("desk;may:[[[[[[1=1]]]]]]and[[[[[[1=1]]]]]]or[[[[[[1=1]]]]]];", 2);
    Book.right("desk;may:" + Book.times(8, "not 1=1 or ") + "not not not not not not 1=1;", 2);
    Book.right("desk;may:" + Book.times(8, "not 1=1 and ") + "((((((1))))))=((((((1))))));", 2);
    Book.right("desk;may:[not[not 1=1 or not not[1=1]]and not not not not not 1=1];", 2);
    Book.faulty("desk;may:[not[not 1=1 or not not[1=1]]and not not not not not not 1=1];", 4, 62);
    Book.right("desk;glad:((((((1))))));glad:((((((1))))));", 3);
    Book.faulty("desk;glad:(((((1)*((1)))));", 2, 26);
    Book.faulty("desk;glad:(((((1)*(((1)))))));", 4, 20);
  }

  /** "piece: its BARS, 12 at most (0, too)" and "4 .. the word of a 13th BAR" */
  static void terms1TwelveBars() {
    for (int bars : new int[] {0, 1, 11, 12}) {
      RubatoDesk x = Book.told("desk;piece" + Book.times(bars, " up 1") + ";");
      due("bars", x.bars(0), bars);
      due("bars together", x.count(2), bars);
      due("the last", x.wants(0, bars - 1), bars == 0 ? Book.NO_SUCH : 1);
      due("one more", x.wants(0, bars), Book.NO_SUCH);
    }
    Book.faulty("desk;piece" + Book.times(13, " up 1") + ";", 4, 10 + 12 * 5 + 1);
    Book.faulty("desk;piece" + Book.times(12, " up 1") + " down 1;", 4, 71);
    Book.faulty("desk;piece" + Book.times(12, " up 1") + " up", 4, 71);
    Book.faulty("desk;piece" + Book.times(12, " up 1") + " up 99;", 4, 71);
    Book.faulty("desk;piece" + Book.times(12, " up 1") + " has 1;", 2, 71);
    Book.faulty("desk;piece" + Book.times(12, " up 1") + " 1;", 2, 71);
    Book.right("desk;" + Book.times(4, "piece" + Book.times(12, " down 9") + ";"), 5);
    Book.faulty("desk;piece;piece" + Book.times(13, " up 1") + ";", 4, 16 + 61);
  }

  /** "up N: it WANTS N, 0 to 9, down N: it WANTS -N" */
  static void terms1Wants() {
    for (int n = 0; n <= 9; n++) {
      RubatoDesk x = Book.told("desk;piece up " + n + " down " + n + " up 00" + n + ";");
      due("up", x.wants(0, 0), n);
      due("down", x.wants(0, 1), -n);
      due("with zeros", x.wants(0, 2), n);
    }
    for (String n : new String[] {"10", "010", "99", "100", "999"}) {
      Book.faulty("desk;piece up " + n + ";", 3, 14);
      Book.faulty("desk;piece down " + n + ";", 3, 16);
      Book.faulty("desk;piece up 1 down " + n + ";", 3, 21);
    }
  }

  /** "numbered from 0 on, 4 at most" and "4 the first TOKEN of a 5th piece" */
  static void terms1FourPieces() {
    for (int pieces = 0; pieces <= 4; pieces++) {
      RubatoDesk x = Book.told("desk;" + Book.times(pieces, "piece up 1;"));
      due("pieces", x.count(0), pieces);
      for (int piece = 0; piece < 5; piece++) due("piece " + piece, x.bars(piece), piece < pieces ? 1 : Book.NO_SUCH);
    }
    RubatoDesk x = Book.told("desk;piece up 1;piece up 2;piece up 3;piece up 4;");
    for (int piece = 0; piece < 4; piece++) due("numbered from 0 on", x.wants(piece, 0), piece + 1);
    Book.faulty("desk;" + Book.times(5, "piece;"), 4, 5 + 24);
    Book.faulty("desk;" + Book.times(4, "piece;") + "player;slips 1;piece", 4, 5 + 24 + 15);
    Book.faulty("desk;" + Book.times(4, "piece;") + "piece up 99;", 4, 29);
    Book.faulty("desk;" + Book.times(4, "piece;") + "piece ?", 4, 29);
    Book.right("desk;" + Book.times(4, "piece;") + "glad : piece;", 6);
  }

  /** "has N: N, owes N: -N, 0 to 20 (0; the later one strikes)" */
  static void terms1Stores() {
    due("none told", Book.told("desk;player;").player(0, 0), 0);
    for (int n : new int[] {0, 1, 19, 20}) {
      due("has", Book.told("desk;player has " + n + ";").player(0, 0), n);
      due("owes", Book.told("desk;player owes " + n + ";").player(0, 0), -n);
    }
    for (String n : new String[] {"21", "021", "30", "99", "100", "999"}) {
      Book.faulty("desk;player has " + n + ";", 3, 16);
      Book.faulty("desk;player owes " + n + ";", 3, 17);
    }
    due("owes is later", Book.told("desk;player has 20 owes 20;").player(0, 0), -20);
    due("has is later", Book.told("desk;player owes 20 has 20;").player(0, 0), 20);
    due("has twice", Book.told("desk;player has 20 has 3;").player(0, 0), 3);
    due("owes twice", Book.told("desk;player owes 20 owes 3;").player(0, 0), -3);
    due("0 is later", Book.told("desk;player has 20 owes 0;").player(0, 0), 0);
    due("a temper between", Book.told("desk;player has 20 temper 3 owes 1;").player(0, 0), -1);
    due("many", Book.told("desk;player" + Book.times(110, " has 20") + " owes 7;").player(0, 0), -7);
    RubatoDesk x = Book.told("desk;player has 4;player;");
    due("of another player none is told", x.player(1, 0), 0);
  }

  /** "temper 0 to 9 (0; a later one strikes)" */
  static void terms1Tempers() {
    due("none told", Book.told("desk;player has 5;").player(0, 2), 0);
    for (int n = 0; n <= 9; n++) due("temper", Book.told("desk;player temper " + n + ";").player(0, 2), n);
    for (String n : new String[] {"10", "010", "99", "100", "999"}) Book.faulty("desk;player temper " + n + ";", 3, 19);
    due("the later", Book.told("desk;player temper 9 temper 3;").player(0, 2), 3);
    due("the later", Book.told("desk;player temper 9 has 2 temper 0;").player(0, 2), 0);
    due("of another player none is told", Book.told("desk;player temper 4;player;").player(1, 2), 0);
  }

  /** "numbered from 0 on, 5 at most" and "4 .. a 6th player" */
  static void terms1FivePlayers() {
    for (int players = 0; players <= 5; players++) {
      RubatoDesk x = Book.told("desk;" + Book.times(players, "player;"));
      due("players", x.count(1), players);
      for (int p = 0; p < 6; p++) due("player " + p, x.player(p, 0), p < players ? 0 : Book.NO_SUCH);
    }
    RubatoDesk x = Book.told("desk;player has 1;player has 2;player has 3;player has 4;player has 5;");
    for (int p = 0; p < 5; p++) due("numbered from 0 on", x.player(p, 0), p + 1);
    Book.faulty("desk;" + Book.times(6, "player;"), 4, 5 + 35);
    Book.faulty("desk;" + Book.times(5, "player;") + "piece;player", 4, 5 + 35 + 6);
    Book.faulty("desk;" + Book.times(5, "player;") + "player has 99;", 4, 40);
    Book.right("desk;" + Book.times(5, "player;") + Book.times(4, "piece;"), 10);
  }

  /** "slips: how likely, in 10, 0 to 10 (0)" */
  static void terms1Slips() {
    due("none told", Book.told("desk;").count(7), 0);
    for (int n = 0; n <= 10; n++) due("slips", Book.told("desk;slips " + n + ";").count(7), n);
    for (String n : new String[] {"11", "011", "20", "100", "999"}) Book.faulty("desk;slips " + n + ";", 3, 11);
    RubatoDesk x = Book.told("desk;piece down 1;player;slips 0;");
    due("0: never", x.chance(0, 0, 2, 0), 1);
    x = Book.told("desk;piece down 1;player;slips 10;");
    due("10: always", x.chance(0, 0, 2, 0), 0);
    due("10: always", x.chance(0, 0, 1, 0), 1);
  }

  /** "Later ones of glad, may, slips strike." */
  static void terms1LaterOnesStrike() {
    due("glad", Book.told("desk;glad:1;piece up 1;player;glad:2;").glad(0, 0, 0, 0, 0), 2);
    due("may", Book.told("desk;may:1=2;piece up 1;player;may:1=1;").comes(0, 0, 2), NONE);
    due("may", Book.told("desk;may:1=1;piece up 1;player;may:1=2;").comes(0, 0, 2), 0);
    due("slips", Book.told("desk;slips 10;slips 0;").count(7), 0);
    due("three", Book.told("desk;slips 10;slips 0;slips 4;").count(7), 4);
    due("what the earlier one asked for is gone",
        Book.told("desk;piece up 1 up 1;player;glad:last*store*999;glad:draw;may:last=9;may:draw<2;").best(0, 0, -20, 0), 2);
    due("all are lines", Book.told("desk;glad:1;glad:2;may:1=1;may:1=2;slips 1;slips 2;").count(10), 7);
  }
}
