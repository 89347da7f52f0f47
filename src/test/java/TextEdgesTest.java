/** The edges of the two languages: each sentence of part I that names one, on both sides of it. */
public final class TextEdgesTest extends Bench {
  private static final String WORDS = "door teeth span place open opens joins coming";
  private static final String IF = "push 1 if ";

  public static void main(String[] args) {
    bytesOfText();
    clausesOfStreet();
    teeth();
    spans();
    toldDoors();
    fixedDoors();
    numberOfDoors();
    numberOfJoins();
    numberOfAxles();
    atLeastOneDoor();
    endsOfStreet();
    bytesThatCannotStand();
    numbersOfStreet();
    firstFault();
    leastFault();
    numberOfRules();
    clausesOfRule();
    clausesOfEachRule();
    rulesBehindFaults();
    digits();
    words();
    grammarWords();
    endsOfRule();
    blanks();
    signs();
    depth();
    depthSideBySide();
    valuesAndFacts();
    factsAtTheirSign();
    division();
    goesRound();
    heldTests();
    finish();
  }

  private static String blank(int n) {
    return " ".repeat(n);
  }

  private static void bytesOfText() {
    sentence("a text of at most 400 bytes");
    dueStreet("door 4 0" + blank(392), 1);
    dueStreet("door 4 0" + blank(383) + ";door 5 5", 2);
    dueStreet("door 4 0" + blank(391) + ";", fault(400, 0));
    dueStreet(blank(399) + "d", fault(399, 0));
    dueRule("push" + blank(395) + "1", 0);
    dueRule("push" + blank(394) + "1;", fault(400, 0));
    dueRule("push" + blank(396), fault(400, 0));
    DoorsOnCogs x = new DoorsOnCogs();
    write(x, "door 4 0" + blank(392));
    due("feed of a 401st byte", x.feed(0, 0, 0, 0, 0), NONE);
    due("street of the 400", x.street(), 1);
  }

  private static void clausesOfStreet() {
    sentence("CLAUSE { ; CLAUSE }, 32 at most");
    String many = "door 4 0;" + "fixed 0;".repeat(30);
    dueStreet(many + "fixed 0", 1);
    dueStreet(many + "fixed 0;fixed 0", fault(257, 4));
    dueStreet(many + "fixed 0;  door 4 0", fault(259, 4));
    dueStreet(many + "fixed 0;door 4 0;door 3 0", fault(257, 4));
    dueStreet(many + "fixed 0;belt 0 0", fault(257, 4));
  }

  private static void teeth() {
    sentence("TEETH 4 to 60");
    dueStreet("door 3 0", fault(5, 1));
    dueStreet("door 4 0", 1);
    dueStreet("door 60 0", 1);
    dueStreet("door 61 0", fault(5, 1));
    dueStreet("door 0 0", fault(5, 1));
    dueStreet("door 99999 0", fault(5, 1));
    dueStreet("door 00060 0", 1);
  }

  private static void spans() {
    sentence("SPAN 0 to TEETH");
    dueStreet("door 4 4", 1);
    dueStreet("door 4 5", fault(7, 1));
    dueStreet("door 60 60", 1);
    dueStreet("door 60 61", fault(8, 1));
    dueStreet("door 9 00000", 1);
    dueStreet("door 9 99999", fault(7, 1));
    sentence("SPAN 0: a MILL, that goes round");
    DoorsOnCogs x = told("door 4 0;door 4 1");
    due("push of a MILL beyond its TEETH", x.push(0, 60), 1);
    due("push of a SPAN of 1 by 1", x.push(1, 1), 1);
    due("push of a SPAN of 1 by 1 more", x.push(1, 1), -11);
  }

  private static void toldDoors() {
    sentence("two unlike DOORS that were told");
    for (String kind : new String[] {"mesh", "belt", "axle"}) {
      dueStreet("door 9 0;door 9 0;" + kind + " 0 1", 2);
      dueStreet("door 9 0;door 9 0;" + kind + " 1 0", 2);
      dueStreet("door 9 0;door 9 0;" + kind + " 0 0", fault(25, 1));
      dueStreet("door 9 0;door 9 0;" + kind + " 1 1", fault(25, 1));
      dueStreet("door 9 0;door 9 0;" + kind + " 0 2", fault(25, 1));
      dueStreet("door 9 0;door 9 0;" + kind + " 2 0", fault(23, 1));
      dueStreet("door 9 0;door 9 0;" + kind + " 2 2", fault(23, 1));
      dueStreet("door 9 0;" + kind + " 0 1;door 9 0", fault(16, 1));
      dueStreet(kind + " 0 1;door 9 0;door 9 0", fault(5, 1));
    }
    String twelve = "door 4 0;".repeat(12);
    dueStreet(twelve + "mesh 11 10", 12);
    dueStreet(twelve + "mesh 11 12", fault(116, 1));
    dueStreet(twelve + "mesh 12 11", fault(113, 1));
  }

  private static void fixedDoors() {
    sentence("fixed NUMBER (a DOOR that was told)");
    dueStreet("door 9 0;fixed 0", 1);
    dueStreet("door 9 0;fixed 1", fault(15, 1));
    dueStreet("door 9 0;fixed 1;door 9 0", fault(15, 1));
    dueStreet("fixed 0;door 9 0", fault(6, 1));
    dueStreet("door 9 0;fixed 0;fixed 0", 1);
    dueStreet("door 4 0;".repeat(12) + "fixed 11", 12);
    dueStreet("door 4 0;".repeat(12) + "fixed 12", fault(114, 1));
    DoorsOnCogs x = told("door 9 0;door 9 0;door 9 0;fixed 2;fixed 0");
    int[] fixed = {1, 0, 1};
    for (int d = 0; d < 3; d++) {
      due("door(" + d + ", 2), two that are fixed", x.door(d, 2), fixed[d]);
      due("push(" + d + ", 1), two that are fixed", x.push(d, 1), fixed[d] == 1 ? -2 : 1);
    }
  }

  private static void numberOfDoors() {
    sentence("DOORS 0 to 11; a 13th DOOR (at its first byte)");
    String eleven = "door 4 0;".repeat(11);
    dueStreet(eleven + "door 4 0", 12);
    dueStreet(eleven + "door 4 0;door 4 0", fault(108, 4));
    dueStreet(eleven + "door 4 0;   door 4 0", fault(111, 4));
    dueStreet(eleven + "door 4 0;door", fault(108, 4));
    dueStreet(eleven + "door 4 0;door 3 0", fault(108, 4));
    dueStreet(eleven + "door 4 0;fixed 11;door 4 0", fault(117, 4));
  }

  private static void numberOfJoins() {
    sentence("JOINS (mesh, belt, axle) 0 to 15; a 17th JOIN (at its first byte)");
    String fifteen = "door 4 0;door 4 0;" + "belt 0 1;".repeat(15);
    for (String kind : new String[] {"mesh", "belt", "axle"}) {
      dueStreet(fifteen + kind + " 0 1", 2);
      dueStreet(fifteen + "mesh 0 1;" + kind + " 0 1", fault(162, 4));
      dueStreet(fifteen + "mesh 0 1; " + kind + " 0 0", fault(163, 4));
    }
    dueStreet(fifteen + "mesh 0 1;fixed 1;door 4 0", 3);
    DoorsOnCogs x = told(fifteen + "axle 1 0");
    due("count(1)", x.count(1), 16);
    due("join(15, 0)", x.join(15, 0), 1);
    due("join(15, 1)", x.join(15, 1), 0);
    due("join(15, 2)", x.join(15, 2), 2);
    due("join(16, 0)", x.join(16, 0), NONE);
  }

  private static void numberOfAxles() {
    sentence("AXLES 3 at most; a fourth AXLE (at its first byte)");
    String two = "door 9 0;door 9 0;axle 0 1;axle 0 1;";
    dueStreet(two + "axle 1 0", 2);
    dueStreet(two + "axle 1 0;axle 0 1", fault(45, 4));
    dueStreet(two + "axle 1 0;mesh 0 1;belt 0 1; axle 0 1", fault(64, 4));
    dueStreet(two + "mesh 1 0;axle 0 1", 2);
    dueStreet(two + "axle 1 0;axle", fault(45, 4));
  }

  private static void atLeastOneDoor() {
    sentence("at least one DOOR; the end (behind the last byte; also without a DOOR)");
    dueStreet("", fault(0, 0));
    dueStreet(" ", fault(1, 0));
    dueStreet(blank(400), fault(400, 0));
    dueStreet("door 4 0", 1);
    due("street on a new object", new DoorsOnCogs().street(), fault(0, 0));
    due("rule on a new object", new DoorsOnCogs().rule(), fault(0, 0));
  }

  private static void endsOfStreet() {
    sentence("the end (behind the last byte)");
    dueStreet("d", fault(0, 0));
    dueStreet("doo", fault(0, 0));
    dueStreet("door", fault(4, 0));
    dueStreet("door ", fault(5, 0));
    dueStreet("door 9", fault(6, 0));
    dueStreet("door 9 ", fault(7, 0));
    dueStreet("door 9 5", 1);
    dueStreet("door 9 5  ", 1);
    dueStreet("door 9 5;", fault(9, 0));
    dueStreet("door 9 5; ", fault(10, 0));
    dueStreet("door 9 5;f", fault(9, 0));
    dueStreet("door 9 5;fixe", fault(9, 0));
    dueStreet("door 9 5;fixed", fault(14, 0));
    dueStreet("door 9 5;fixed  ", fault(16, 0));
    dueStreet("door 9 5;door 9 5;mesh", fault(22, 0));
    dueStreet("door 9 5;door 9 5;belt 0", fault(24, 0));
    dueStreet("door 9 5;door 9 5;axle 0 ", fault(25, 0));
  }

  /** All bytes in turn, ahead of a text, between a word and a number, and between two clauses. */
  private static void bytesThatCannotStand() {
    sentence("a byte or WORD that can't stand there");
    for (char b = 0; b < 256; b++) {
      boolean isLetter = b >= 'a' && b <= 'z';
      boolean isDigit = b >= '0' && b <= '9';
      dueStreet(b + "door 4 0", b == ' ' ? 1 : fault(0, 0));
      int inWord = b == ' ' || isDigit && b < '6' ? 1 : isDigit ? fault(4, 1) : fault(4, 0);
      dueStreet("door" + b + "4 0", isLetter ? fault(0, 0) : inWord);
      int inClause = b == ' ' || isDigit && b < '5' ? fault(9, 0) : fault(8, 0);
      inClause = isDigit && b > '4' ? fault(7, 1) : inClause;
      dueStreet("door 4 0" + b + "door 4 0", b == ';' ? 2 : inClause);
      dueStreet("door 4 0" + b, isDigit && b > '4' ? fault(7, 1) : isDigit || b == ' ' ? 1
          : b == ';' ? fault(9, 0) : fault(8, 0));
      int behindPush = b == ' ' || isDigit ? 0 : isLetter ? fault(0, 0) : fault(4, 0);
      dueRule("push" + b + "1", behindPush);
    }
  }

  private static void numbersOfStreet() {
    sentence("a NUMBER of more digits, or not as told");
    dueStreet("door 00009 00009", 1);
    dueStreet("door 000009 9", fault(5, 1));
    dueStreet("door 9 000009", fault(7, 1));
    dueStreet("door 9 0;fixed 00000", 1);
    dueStreet("door 9 0;fixed 000000", fault(15, 1));
    dueStreet("door 9 0;door 9 0;mesh 00000 00001", 2);
    dueStreet("door 9 0;door 9 0;mesh 000000 1", fault(23, 1));
    dueStreet("door 9 0;door 9 0;mesh 0 000001", fault(25, 1));
    dueStreet("door " + "9".repeat(395), fault(5, 1));
    dueStreet("door 4294967305 9", fault(5, 1));
  }

  private static void firstFault() {
    sentence("FAULTS, the first along the text");
    dueStreet("door 3 0;door 61 0", fault(5, 1));
    dueStreet("door 3 9", fault(5, 1));
    dueStreet("door 9 0;mesh 5 5", fault(14, 1));
    dueStreet("door 9 0;mesh 0 0;x", fault(16, 1));
    dueStreet("door 9 0,mesh 0 0", fault(8, 0));
    dueRule("push x;push 123456", fault(5, 0));
    dueRule("push 123456;push x", fault(5, 1));
    dueRule(IF + "[".repeat(11) + "x", fault(20, 2));
    dueRule(IF + "[".repeat(10) + "x", fault(20, 0));
    dueRule("push " + "1+".repeat(60) + "1+x", fault(125, 3));
    dueRule("push 1;".repeat(12) + "push x", fault(84, 4));
  }

  private static void leastFault() {
    sentence("Of one place the least");
    String sixty = "push " + "1+".repeat(60);
    dueRule(sixty + "1", fault(125, 3));
    dueRule(sixty + "door", fault(125, 3));
    dueRule(sixty + "doors", fault(125, 0));
    dueRule(sixty + "99999", fault(125, 3));
    dueRule(sixty + "100000", fault(125, 1));
    dueRule(sixty + "<", fault(125, 0));
    dueRule(sixty, fault(125, 0));
    dueRule("push 1;".repeat(12) + "pushes", fault(84, 0));
    dueRule("push 1;".repeat(12) + " ", fault(85, 0));
    dueStreet("door 4 0;".repeat(12) + "doors", fault(108, 0));
    dueStreet("door 4 0;" + "fixed 0;".repeat(31) + "fix", fault(257, 0));
    dueStreet("door 4 0;" + "fixed 0;".repeat(31), fault(257, 0));
    dueStreet("door 4 0;" + "fixed 0;".repeat(31) + ";", fault(257, 0));
  }

  private static void numberOfRules() {
    sentence("RULES 0 to 5");
    DoorsOnCogs x = new DoorsOnCogs();
    for (int i = 0; i < 6; i++) {
      due("rule " + i, rule(x, "push 1"), i);
    }
    due("a seventh", rule(x, "push 1"), NONE);
    due("a seventh with a fault", rule(x, "push x"), NONE);
    due("count(2)", x.count(2), 6);
    due("count(9), the tape stays", x.count(9), 6);
    due("street of that tape", x.street(), fault(0, 0));
  }

  private static void clausesOfRule() {
    sentence("12 CLAUSES at most");
    dueRule("push 1;".repeat(11) + "push 1", 0);
    dueRule("push 1;".repeat(12) + "push 1", fault(84, 4));
    dueRule("push 1;".repeat(12) + " push", fault(85, 4));
    // The twelfth clause is still one that is looked at.
    dueSum("1 if 1=2;".repeat(1) + "push 1 if 1=2;".repeat(10) + "push 9", 9);
  }

  private static void clausesOfEachRule() {
    sentence("12 CLAUSES at most (of each RULE)");
    DoorsOnCogs x = new DoorsOnCogs();
    String eleven = "push 1;".repeat(11);
    due("rule of 12", rule(x, eleven + "push 1"), 0);
    due("rule of 12 behind one of 12", rule(x, eleven + "push 1"), 1);
    due("rule of 13", rule(x, eleven + "push 1;push 1"), fault(84, 4));
    due("rule of 12 behind one of 13", rule(x, eleven + "push 1"), 2);
  }

  /** What a text with a fault told up to there must be gone when the next one is read. */
  private static void rulesBehindFaults() {
    sentence("-2 - its FAULT (a RULE behind one is as if it had not been)");
    String[] bad = {"push 9;x", "push 9 if 1=1;push", "push 0*x", "push 0 if 1=2 and", IF + "[not [0*x",
        IF + "not ".repeat(11), "push 1;".repeat(12) + "push 1", "push " + "1+".repeat(60) + "1"};
    for (String text : bad) {
      DoorsOnCogs x = told("door 60 0", text);
      due("count(2) behind '" + text + "'", x.count(2), 0);
      x.slip(0, 30);
      x.coming(0);
      due("rule behind '" + text + "'", rule(x, "push 2"), 0);
      due("its push behind '" + text + "'", x.worn(0, 0, 0), 2);
      due("] behind '" + text + "'", rule(x, IF + "1<2]"), fault(13, 0));
      due("not and ] behind '" + text + "'", rule(x, IF + "not 1<2]"), fault(17, 0));
      due("10 deep behind '" + text + "'", rule(x, IF + "[not ".repeat(5) + "1<2" + "]".repeat(5)), 1);
      due("12 clauses behind '" + text + "'", rule(x, "push 1;".repeat(11) + "push 1"), 2);
      due("60 values behind '" + text + "'", rule(x, "push " + "1+".repeat(59) + "1"), 3);
      due("push of 60 values behind '" + text + "'", x.worn(3, 0, 0), 60);
    }
  }

  private static void digits() {
    sentence("NUMBER (1 to 5 digits, as far as digits go on)");
    dueRule("push 0", 0);
    dueRule("push 99999", 0);
    dueRule("push 00000", 0);
    dueRule("push 100000", fault(5, 1));
    dueRule("push 000000", fault(5, 1));
    dueRule("push 1+100000", fault(7, 1));
    dueRule(IF + "99999<99999", 0);
    dueRule(IF + "100000<1", fault(10, 1));
    dueRule(IF + "1<100000", fault(12, 1));
    dueRule("push 12 3", fault(8, 0));
    dueSum("00007", 7);
    dueTest("99999 = 100*1000-1", true);
  }

  private static void words() {
    sentence("WORDS (small letters, as far as these go on)");
    for (String word : WORDS.split(" ")) {
      dueRule("push " + word, 0);
      dueRule("push 1*" + word + "*1", 0);
      dueRule("push " + word + "x", fault(5, 0));
      dueRule("push " + word + "s", word.equals("open") ? 0 : fault(5, 0));
      String less = word.substring(0, word.length() - 1);
      dueRule("push " + less, less.equals("open") ? 0 : fault(5, 0));
      dueRule("push " + word.toUpperCase(), fault(5, 0));
      dueRule("push " + word + "X", fault(5 + word.length(), 0));
      dueRule("push " + word + "7", fault(5 + word.length(), 0));
      dueRule("push 7" + word, fault(6, 0));
    }
    dueRule("push opendoor", fault(5, 0));
    dueRule("push " + "a".repeat(395), fault(5, 0));
  }

  private static void grammarWords() {
    sentence("push SUM [ if TEST ], or, and, not");
    dueRule("push1if1<2and not3<4or5<6", 0);
    dueRule("pushx 1", fault(0, 0));
    dueRule("pus 1", fault(0, 0));
    dueRule("Push 1", fault(0, 0));
    dueRule("push 1 i 1<2", fault(7, 0));
    dueRule("push 1 ifx 1<2", fault(7, 0));
    dueRule("push 1 ifnot 1<2", fault(7, 0));
    dueRule(IF + "1<2 an 1<2", fault(14, 0));
    dueRule(IF + "1<2 ands 1<2", fault(14, 0));
    dueRule(IF + "1<2 o 1<2", fault(14, 0));
    dueRule(IF + "1<2 ors 1<2", fault(14, 0));
    dueRule(IF + "1<2 not 1<2", fault(14, 0));
    dueRule(IF + "no 1<2", fault(10, 0));
    dueRule(IF + "nots 1<2", fault(10, 0));
    dueRule(IF + "notnot 1<2", fault(10, 0));
    dueRule(IF + "and 1<2", fault(10, 0));
    dueRule(IF + "not and 1<2", fault(14, 0));
    dueRule("push not 1", fault(5, 0));
    dueRule("push push 1", fault(5, 0));
    dueRule("if 1<2 push 1", fault(0, 0));
    dueRule("push 1 and 1<2", fault(7, 0));
    dueRule("push 1 or 1<2", fault(7, 0));
    dueRule("push 1 not 1<2", fault(7, 0));
    dueRule(IF + "1 if 1<2", fault(12, 0));
    dueRule(IF + "1<2 if 1<2", fault(14, 0));
    dueRule(IF + "[1<2] if 1<2", fault(16, 0));
  }

  private static void endsOfRule() {
    sentence("the end (behind the last byte)");
    dueRule("push", fault(4, 0));
    dueRule("push ", fault(5, 0));
    dueRule("push 1", 0);
    dueRule("push 1  ", 0);
    dueRule("push 1+", fault(7, 0));
    dueRule("push 1;", fault(7, 0));
    dueRule("push 1 if", fault(9, 0));
    dueRule(IF, fault(10, 0));
    dueRule(IF + "1", fault(11, 0));
    dueRule(IF + "1 ", fault(12, 0));
    dueRule(IF + "1<", fault(12, 0));
    dueRule(IF + "1<=", fault(13, 0));
    dueRule(IF + "1<2", 0);
    dueRule(IF + "1<2*", fault(14, 0));
    dueRule(IF + "1<2 or", fault(16, 0));
    dueRule(IF + "1<2 and ", fault(18, 0));
    dueRule(IF + "not", fault(13, 0));
    dueRule(IF + "[", fault(11, 0));
    dueRule(IF + "[1<2", fault(14, 0));
    dueRule(IF + "[1<2]", 0);
    dueRule(IF + "[1<2]]", fault(15, 0));
    dueRule(IF + "[]", fault(11, 0));
  }

  private static void blanks() {
    sentence("Blanks (32) stand between as one likes");
    dueStreet("   door   9   5   ;   fixed   0   ", 1);
    dueStreet("door9 5;fixed0", 1);
    dueStreet("door 95", fault(5, 1));
    dueStreet("do or 9 5", fault(0, 0));
    dueStreet("door 9 5;fixed 0 0", fault(17, 0));
    dueStreet("door\t9 5", fault(4, 0));
    dueStreet("door 9 5\n", fault(8, 0));
    dueRule("  push  1  +  2  if  [  not  1  <=  2  ]  ;  push  3  ", 0);
    dueRule("push1+2if[not1<=2];push3", 0);
    dueRule("pu sh 1", fault(0, 0));
    dueRule("push 1\n;push 2", fault(6, 0));
    dueRule("push" + (char) 160 + "1", fault(4, 0));
    dueRule("push 1 0", fault(7, 0));
  }

  private static void signs() {
    sentence("SIGN one of < <= = >= >");
    for (String sign : new String[] {"<", "<=", "=", ">=", ">"}) {
      dueRule(IF + "1" + sign + "2", 0);
      dueRule(IF + "1 " + sign + " 2", 0);
      dueTest("1" + sign + "2", sign.startsWith("<"));
      dueTest("2" + sign + "2", sign.contains("="));
      dueTest("3" + sign + "2", sign.startsWith(">"));
    }
    dueRule(IF + "1 < = 2", fault(14, 0));
    dueRule(IF + "1 > = 2", fault(14, 0));
    dueRule(IF + "1 == 2", fault(13, 0));
    dueRule(IF + "1 =< 2", fault(13, 0));
    dueRule(IF + "1 => 2", fault(13, 0));
    dueRule(IF + "1 <> 2", fault(13, 0));
    dueRule(IF + "1 != 2", fault(12, 0));
    dueRule(IF + "1 <== 2", fault(14, 0));
    dueRule(IF + "1 < 2 < 3", fault(16, 0));
    dueRule(IF + "1 and 1 < 2", fault(12, 0));
    dueRule("push 1 % 2", fault(7, 0));
    dueRule("push 1 ** 2", fault(8, 0));
    dueRule("push + 1", fault(5, 0));
    dueRule("push [1]", fault(5, 0));
  }

  private static void depth() {
    sentence("[ and not lie within one another 10 deep at most; too deep "
        + "(at the sign that opens, or the word not)");
    dueRule(IF + "[".repeat(10) + "1<2" + "]".repeat(10), 0);
    dueRule(IF + "[".repeat(11) + "1<2" + "]".repeat(11), fault(20, 2));
    dueRule(IF + "[".repeat(10) + "  [", fault(22, 2));
    dueRule(IF + "not ".repeat(10) + "1<2", 0);
    dueRule(IF + "not ".repeat(11) + "1<2", fault(50, 2));
    dueRule(IF + "not ".repeat(10) + "[1<2]", fault(50, 2));
    dueRule(IF + "[".repeat(10) + "not 1<2" + "]".repeat(10), fault(20, 2));
    dueRule(IF + "[not ".repeat(5) + "1<2" + "]".repeat(5), 0);
    dueRule(IF + "[not ".repeat(5) + "[1<2]" + "]".repeat(5), fault(35, 2));
    dueRule(IF + "[not ".repeat(5) + "not 1<2" + "]".repeat(5), fault(35, 2));
    dueRule(IF + "not[".repeat(5) + "nots", fault(30, 0));
    dueTest("not ".repeat(10) + "1<2", true);
    dueTest("not ".repeat(9) + "1<2", false);
    dueTest("[not ".repeat(5) + "1<2" + "]".repeat(5), false);
  }

  private static void depthSideBySide() {
    sentence("[ and not lie within one another (beside one another they are as deep as one)");
    dueRule(IF + "not 1<2 and ".repeat(14) + "not 1<2", 0);
    dueRule(IF + "[1<2]or".repeat(14) + "[1<2]", 0);
    dueRule(IF + "not not 1<2 or ".repeat(5) + "not ".repeat(10) + "1<2", 0);
    dueRule(IF + "not not 1<2 or ".repeat(5) + "not ".repeat(11) + "1<2", fault(125, 2));
    dueRule(IF + "[".repeat(9) + "[1<2]and[1<2]or not 1<2" + "]".repeat(9), 0);
    dueRule(IF + "[".repeat(9) + "[1<2]and[[1<2]]", fault(28, 2));
    dueRule(IF + "[".repeat(9) + "not[1<2]", fault(22, 2));
    dueRule(IF + "[".repeat(9) + "not 1<2 and not not 1<2", fault(35, 2));
    dueRule("push 1 if " + "not ".repeat(10) + "1<2;push 1 if " + "[".repeat(10) + "1<2"
        + "]".repeat(10), 0);
  }

  private static void valuesAndFacts() {
    sentence("at most 60 VALUES and FACTS made of a SIGN, together; one VALUE too many "
        + "(at its first byte)");
    dueRule("push " + "1+".repeat(59) + "1", 0);
    dueRule("push " + "1*".repeat(60) + "1", fault(125, 3));
    dueRule("push " + "1-".repeat(60) + "  joins", fault(127, 3));
    // One for the push and three for each fact: 58 of 19 facts, and two more values make 60.
    String facts = "1<1and".repeat(18);
    dueRule("push 1+1+1if " + facts + " 1<1", 0);
    dueRule("push 1+1+1if " + facts + " 1<1+1", fault(126, 3));
    dueRule("push 1+1+1+1if " + facts + " 1<1", fault(126, 3));
    dueRule("push 1+1+1if not[" + "1<1and ".repeat(17) + "[1<1]or not 1<1]", 0);
    // They are counted through all clauses of a rule, and anew for the next rule.
    String half = "push " + "1+".repeat(29) + "1";
    dueRule(half + ";" + half, 0);
    dueRule(half + ";" + half + ";push 1", fault(135, 3));
    DoorsOnCogs x = new DoorsOnCogs();
    due("rule of 60", rule(x, half + ";" + half), 0);
    due("rule of 60 behind one of 60", rule(x, half + ";" + half), 1);
  }

  private static void factsAtTheirSign() {
    sentence("one FACT too many (of a FACT at its SIGN)");
    String facts = "1<1and".repeat(18);
    dueRule("push 1+1+1+1+1if " + facts + " 1<1", fault(127, 3));
    dueRule("push 1+1+1+1+1if " + facts + " 1  >=1", fault(129, 3));
    dueRule("push " + "1+".repeat(58) + "1if 1<1", fault(126, 3));
    dueRule("push " + "1+".repeat(57) + "1if 1<1", fault(125, 3));
    dueRule("push " + "1+".repeat(56) + "1if 1<1", 0);
    dueRule("push " + "1+".repeat(58) + "1if 1!1", fault(126, 0));
  }

  private static void division() {
    sentence("/ is towards 0, 0 by 0");
    dueSum("7/2", 3);
    dueSum("0-7/2", -3);
    dueSum("5/0", 0);
    dueSum("0/0", 0);
    dueSum("9+5/0", 9);
    dueSum("5/0+9", 9);
    dueSum("8/3*3", 6);
    dueSum("59/60", 0);
    dueSum("60/60", 1);
    // place is -1 here, so what is above or below the line is less than 0.
    due("7 by -2", pushedBy("push 7/place", -2), -3);
    due("-7 by 2", pushedBy("push place/2", -7), -3);
    due("-1 by 2", pushedBy("push place/2", -1), 0);
    due("-7 by 0", pushedBy("push place/0", -7), 0);
  }

  private static void goesRound() {
    sentence("all goes round in 64 bits");
    String huge = "32768*32768*32768*32768";
    dueTest(huge + "*7 > 0", true);
    dueTest(huge + "*8 < 0", true);
    dueTest(huge + "*15 < 0", true);
    dueTest(huge + "*16 = 0", true);
    dueTest(huge + "*17 = " + huge, true);
    dueTest(huge + "*4 + " + huge + "*4 < 0", true);
    dueTest(huge + "*4 - 1 + " + huge + "*4 > 0", true);
    dueTest("0 - " + huge + "*8 < 0", true);
    dueTest("0 - " + huge + "*8 - 1 > 0", true);
    // The least number by -1 is itself, for place is -1.
    dueTest(huge + "*8/place = " + huge + "*8", true);
    dueTest(huge + "*8*place = " + huge + "*8", true);
    dueTest(huge + "*8/2 = 0 - " + huge + "*4", true);
    dueSum(huge + "*7", 60);
    dueSum(huge + "*8", -60);
    dueSum(huge + "*16", 0);
    dueSum(huge + "*16+1", 1);
  }

  private static void heldTests() {
    sentence("TEST: PART { or PART }. PART: FACT { and FACT }");
    dueTest("1=1 or 1=2 and 1=2", true);
    dueTest("[1=1 or 1=2] and 1=2", false);
    dueTest("1=2 and 1=2 or 1=1", true);
    dueTest("1=2 and [1=2 or 1=1]", false);
    dueTest("not 1=2 and 1=2", false);
    dueTest("not [1=2 and 1=2]", true);
    dueTest("not 1=1 or 1=1", true);
    dueTest("not [1=1 or 1=1]", false);
    sentence("SUM SIGN SUM (a SUM on either side is whole)");
    dueTest("1=1+1", false);
    dueTest("1+1=1", false);
    dueTest("2-1=1", true);
    dueTest("3=1*3", true);
    dueTest("1=2-1 and 2=2*1", true);
  }
}
