/** The promises 1 to 58, one after the other: ordinary inputs, edges that the document names, and wrong inputs. */
public final class SpoonSetPromises {
  private static final int NONE = SpoonSet.NONE;
  private static final int LOW = Integer.MIN_VALUE;
  private static final int HIGH = Integer.MAX_VALUE;
  private static int wrong = 0;
  private static int checks = 0;

  private static void due(int promise, String call, int got, int want) {
    checks++;
    if (got == want) return;
    wrong++;
    System.out.println("promise " + promise + ": " + call + " answered " + got + ", due is " + want);
  }

  private static void due(int promise, String call, boolean got, boolean want) { due(promise, call, got ? 1 : 0, want ? 1 : 0); }

  public static void main(String[] args) {
    newObject();
    diners();
    feelings();
    cards();
    tape();
    texts();
    faults();
    ruling();
    eating();
    smithAndPolish();
    days();
    lastDays();
    playing();
    years();
    undoing();
    ofDiners();
    layersAndAll();
    book();
    foretelling();
    tasting();
    layings();
    mouthsOnSpoons();
    lasting();
    clues();
    meeting();
    thief();
    houses();
    game();
    whoseLaw();
    standingOut();
    images();
    about();
    System.out.println(checks + " checks, " + (wrong == 0 ? "all answers are as due" : wrong + " answers are not as due"));
    if (wrong != 0) System.exit(1);
  }

  /** Puts a text on the tape, whatever was there. */
  private static void onTape(SpoonSet x, String text) {
    x.end(0);
    for (int i = 0; i < text.length(); i += 20) {
      int[] five = new int[5];
      for (int k = 0; k < 20; k++) five[k / 4] = five[k / 4] << 8 | (i + k < text.length() ? text.charAt(i + k) & 255 : 0);
      x.feed(five[0], five[1], five[2], five[3], five[4]);
    }
    x.end(text.length());
  }

  private static int read(SpoonSet x, String text) {
    onTape(x, text);
    return x.text();
  }

  private static SpoonSet withDiners(int... gives) {
    SpoonSet x = new SpoonSet();
    for (int g : gives) x.diner(g);
    return x;
  }

  private static void newObject() {
    SpoonSet x = new SpoonSet();
    for (int s = 0; s < 8; s++) due(1, "layers(" + s + ")", x.layers(s), 0);
    due(1, "is(0)", x.is(0), 0);
    due(1, "is(1)", x.is(1), 461);
    due(1, "is(2)", x.is(2), 0);
    due(1, "is(3)", x.is(3), 255);
    for (int w : new int[] {0, 1, 3, 4, 5, 6, 7}) due(1, "about(" + w + ")", x.about(w), 0);
    due(1, "about(2)", x.about(2), NONE);
    x.diner(4);
    x.eat(0, 1);
    x.house(0, 3);
    x.value(1, 2, 3);
    x.clue(0, 0);
    due(1, "back()", x.back(), 0);
    due(1, "about(0)", x.about(0), 0);
    due(1, "is(3)", x.is(3), 255);
    due(1, "goes(0, 1)", x.goes(0, 1), 0);
    due(1, "game(2)", x.game(2), 0);
    due(1, "about(3)", x.about(3), 0);
    due(1, "about(4)", x.about(4), 0);
  }

  private static void diners() {
    SpoonSet x = new SpoonSet();
    for (int g : new int[] {0, 10, -1, LOW, HIGH}) due(2, "diner(" + g + ")", x.diner(g), NONE);
    int[] gives = {1, 9, 5, 2, 3, 4};
    for (int d = 0; d < 6; d++) due(2, "diner(" + gives[d] + ")", x.diner(gives[d]), d);
    due(2, "the 7th", x.diner(5), NONE);
    for (int d = 0; d < 6; d++) due(2, "of(" + d + ", 0)", x.of(d, 0), gives[d]);
    due(2, "about(0)", x.about(0), 6);
  }

  private static void feelings() {
    SpoonSet x = withDiners(1, 2, 3);
    due(3, "feel(0, 1, 9)", x.feel(0, 1, 9), true);
    due(3, "feel(1, 0, -9)", x.feel(1, 0, -9), true);
    due(3, "feel(0, 1, 10)", x.feel(0, 1, 10), false);
    due(3, "feel(0, 1, -10)", x.feel(0, 1, -10), false);
    due(3, "feel(1, 1, 2)", x.feel(1, 1, 2), false);
    due(3, "feel(3, 1, 2)", x.feel(3, 1, 2), false);
    due(3, "feel(1, 3, 2)", x.feel(1, 3, 2), false);
    due(3, "feel(-1, 1, 2)", x.feel(-1, 1, 2), false);
    due(3, "feel(1, LOW, 2)", x.feel(1, LOW, 2), false);
    due(18, "feels(0, 1)", x.feels(0, 1), 9);
    due(18, "feels(1, 0)", x.feels(1, 0), -9);
    due(18, "feels(0, 2)", x.feels(0, 2), 0);
    due(18, "feels(1, 1)", x.feels(1, 1), 0);
    due(18, "feels(3, 0)", x.feels(3, 0), -100);
    due(18, "feels(0, 3)", x.feels(0, 3), -100);
    due(18, "feels(-1, 0)", x.feels(-1, 0), -100);
    due(18, "feels(0, HIGH)", x.feels(0, HIGH), -100);
    due(3, "feel(0, 1, 0)", x.feel(0, 1, 0), true);
    due(18, "feels(0, 1) anew", x.feels(0, 1), 0);
  }

  private static void cards() {
    SpoonSet x = withDiners(1, 2);
    due(4, "of(0, 1)", x.of(0, 1), NONE);
    due(4, "card(0, 7)", x.card(0, 7), true);
    due(4, "card(1, 0)", x.card(1, 0), true);
    due(4, "card(0, 8)", x.card(0, 8), false);
    due(4, "card(0, -2)", x.card(0, -2), false);
    due(4, "card(2, 0)", x.card(2, 0), false);
    due(4, "card(-1, 0)", x.card(-1, 0), false);
    due(4, "of(0, 1)", x.of(0, 1), 7);
    due(4, "card(0, NONE)", x.card(0, NONE), true);
    due(4, "of(0, 1)", x.of(0, 1), NONE);
    due(4, "of(1, 1)", x.of(1, 1), 0);
  }

  private static void tape() {
    SpoonSet x = new SpoonSet();
    for (int i = 1; i <= 15; i++) due(5, "feed", x.feed(0, 0, 0, 0, 0), 20 * i);
    due(5, "the 16th feed", x.feed(0, 0, 0, 0, 0), NONE);
    due(5, "about(7)", x.about(7), 300);
    due(6, "end(301)", x.end(301), NONE);
    due(6, "end(-1)", x.end(-1), NONE);
    due(6, "end(LOW)", x.end(LOW), NONE);
    due(6, "about(7)", x.about(7), 300);
    due(6, "end(300)", x.end(300), 300);
    due(6, "end(281)", x.end(281), 281);
    due(5, "feed to 301", x.feed(0, 0, 0, 0, 0), NONE);
    due(6, "end(280)", x.end(280), 280);
    due(5, "feed to 300", x.feed(0, 0, 0, 0, 0), 300);
    due(6, "end(0)", x.end(0), 0);
    due(6, "end(1)", x.end(1), NONE);
    // 'smith 0;' is twice four bytes: the first number's highest byte comes first
    due(5, "feed", x.feed(0x736d6974, 0x6820303b, 0xffffffff, 0, 0), 20);
    x.end(8);
    due(5, "text()", x.text(), 0);
    due(6, "about(7)", x.about(7), 0);
    x.feed(0x736d6974, 0x6820303b, 0xff202020, 0x20202020, 0x20202020);
    due(5, "a byte 255", x.text(), NONE);
    due(5, "its place", x.fault(1), 8);
  }

  private static void texts() {
    SpoonSet x = new SpoonSet();
    due(7, "a text of no byte", x.text(), 0);
    due(7, "played(0)", x.played(0), NONE);
    due(7, "blanks", read(x, " \n \n"), 1);
    due(7, "a fault", read(x, "smith 9;"), NONE);
    due(7, "the tape is empty", x.about(7), 0);
    due(7, "about(1)", x.about(1), 2);
    due(7, "a third", read(x, "smith 0;"), 2);
    due(7, "a fourth", read(x, "fades 2;felt 3;"), 3);
    due(7, "a fifth", read(x, "smith 9;"), NONE);
    due(7, "the tape stays", x.about(7), 8);
    due(8, "the fifth isn't read", x.fault(0), 0);
    due(8, "the fifth isn't read", x.fault(1), NONE);
    due(7, "about(1)", x.about(1), 4);
  }

  private static void faultIs(int promise, String text, int fault, int place) {
    SpoonSet x = new SpoonSet();
    int number = read(x, text);
    due(promise, "text \"" + text + "\"", number, fault == 0 ? 0 : NONE);
    due(promise, "fault(0) of \"" + text + "\"", x.fault(0), fault);
    due(promise, "fault(1) of \"" + text + "\"", x.fault(1), place);
  }

  private static void faults() {
    SpoonSet x = new SpoonSet();
    due(8, "fault(0) ahead of any", x.fault(0), NONE);
    due(8, "fault(1) ahead of any", x.fault(1), NONE);
    read(x, "smith 8;");
    due(8, "fault(0)", x.fault(0), 2);
    due(8, "fault(2)", x.fault(2), NONE);
    due(8, "fault(-1)", x.fault(-1), NONE);
    due(8, "fault(1)", x.fault(1), 6);
    read(x, "smith 7;");
    due(8, "fault(0) without", x.fault(0), 0);
    due(8, "fault(1) without", x.fault(1), NONE);
    good();
    cannotStand();
    wrongNumbers();
    tooDeep();
    otherFaults();
  }

  private static void good() {
    faultIs(7, "", 0, NONE);
    faultIs(7, "fades1;felt2;diner3;card0at0;eat0with0;smith0;polish0;day1;", 0, NONE);
    faultIs(7, "\n fades \n day + spoon * mouth - strong / deep + layers ;", 0, NONE);
    faultIs(7, "felt diner + feels + day + spoon + mouth + strong + deep;", 0, NONE);
    faultIs(7, "felt if 1<2 or 1<=2 and 1>2 or not 1>=2 and 1=2 or 1#2 then 1 else 2 end;", 0, NONE);
    faultIs(7, "felt 9999;day 60;day 1;diner 9;card 5 at 7;eat 5 with 7;smith 7;polish 7;", 0, NONE);
    faultIs(7, "felt 00009999;diner 0009;", 0, NONE);
    faultIs(7, "felt 1 - - - 2 * -(3);", 0, NONE);
    faultIs(7, "felt gives top - gives (1);", 0, NONE);
    StringBuilder full = new StringBuilder("felt 1");
    while (full.length() < 298) full.append("+1");
    faultIs(7, full + " ;", 0, NONE);
    faultIs(7, full + "+;", 1, 299);
    faultIs(7, full.toString(), 1, 298);
    // As many tokens as a tape can have, with a sign, a number or no token at all as the last.
    for (String two : new String[] {";;", ";1", "1;", "\0\0"}) faultIs(7, two.repeat(150), 1, 0);
  }

  private static void cannotStand() {
    faultIs(8, "foo;", 1, 0);
    faultIs(8, ";", 1, 0);
    faultIs(8, "  3;", 1, 2);
    faultIs(8, "Smith 0;", 1, 0);
    faultIs(8, "smithy 0;", 1, 0);
    for (char c : "azAZ".toCharArray()) faultIs(8, "smith" + c + " 0;", 1, 0);
    for (char c : "@[`{_".toCharArray()) faultIs(8, "smith" + c + " 0;", 1, 5);
    faultIs(8, "smith 0/;", 1, 7);
    faultIs(8, "smith 0:;", 1, 7);
    faultIs(8, "spoon 0;", 1, 0);
    faultIs(8, "smith;", 1, 5);
    faultIs(8, "smith -1;", 1, 6);
    faultIs(8, "smith (1);", 1, 6);
    faultIs(8, "card 0 with 1;", 1, 7);
    faultIs(8, "eat 0 at 1;", 1, 6);
    faultIs(8, "smith 0 10000;", 1, 8);
    faultIs(8, "felt 1 2;", 1, 7);
    faultIs(8, "felt ();", 1, 6);
    faultIs(8, "felt (1;", 1, 7);
    faultIs(8, "felt 1);", 1, 6);
    faultIs(8, "felt + 1;", 1, 5);
    faultIs(8, "felt 1 +;", 1, 8);
    faultIs(8, "felt eat;", 1, 5);
    faultIs(8, "felt foo;", 1, 5);
    faultIs(8, "felt not 1;", 1, 5);
    faultIs(8, "felt if 1 = 1 then 2 end;", 1, 21);
    faultIs(8, "felt if 1 = 1 then 2 else 3;", 1, 27);
    faultIs(8, "felt if 1 < = 1 then 2 else 3 end;", 1, 12);
    faultIs(8, "felt if 1 <> 1 then 2 else 3 end;", 1, 11);
    faultIs(8, "felt if (1 < 2) then 2 else 3 end;", 1, 11);
    faultIs(8, "felt if 1 < 2 < 3 then 2 else 3 end;", 1, 14);
    faultIs(8, "felt if 1 < 2 then 2 < 3 else 3 end;", 1, 21);
    faultIs(8, "felt if 1 < not 2 then 2 else 3 end;", 1, 12);
    faultIs(8, "felt 1", 1, 6);
    faultIs(8, "felt 1  \n", 1, 9);
    faultIs(8, "felt", 1, 4);
    faultIs(8, "felt 1&2;", 1, 6);
    faultIs(8, "felt 1\t;", 1, 6);
    faultIs(8, "felt 1;" + (char) 0, 1, 7);
    faultIs(8, "felt 1;" + (char) 233, 1, 7);
  }

  private static void wrongNumbers() {
    faultIs(8, "felt 10000;", 2, 5);
    faultIs(8, "felt 99999999999999999999;", 2, 5);
    faultIs(8, "felt 4294967297;", 2, 5);
    faultIs(8, "diner 0;", 2, 6);
    faultIs(8, "diner 10;", 2, 6);
    faultIs(8, "diner 4294967297;", 2, 6);
    faultIs(8, "card 6 foo", 2, 5);
    faultIs(8, "card 5 at 8", 2, 10);
    faultIs(8, "eat 6 with 1;", 2, 4);
    faultIs(8, "eat 5 with 8;", 2, 11);
    faultIs(8, "smith 8;", 2, 6);
    faultIs(8, "polish 8;", 2, 7);
    faultIs(8, "day 0;", 2, 4);
    faultIs(8, "day 61;", 2, 4);
  }

  private static void tooDeep() {
    faultIs(8, "felt ((((((((1))))))));", 0, NONE);
    faultIs(8, "felt (((((((((1)))))))));", 3, 13);
    faultIs(8, "felt --------1;", 0, NONE);
    faultIs(8, "felt ---------1;", 3, 13);
    faultIs(8, "felt 1---------1;", 0, NONE);
    faultIs(8, "felt gives gives top top - - ( ( if", 3, 33);
    faultIs(8, "felt gives gives top top - - ( ( 1 ) + ( - 1 ) )", 3, 41);
    faultIs(8, "felt gives gives top top - - ( 1 + ( 1 ) + ( 1 ) );", 0, NONE);
    faultIs(8, "felt if not not not not not not not 1=1 then 1 else 2 end;", 0, NONE);
    faultIs(8, "felt if not not not not not not not not 1=1 then 1 else 2 end;", 3, 36);
    faultIs(8, "felt if not not not not not not not 1=(1) then 1 else 2 end;", 3, 38);
    faultIs(8, "felt if not not not not not not not 1=1 and not (1)=1 then (1) else -(2) end;", 0, NONE);
  }

  private static void otherFaults() {
    faultIs(8, "fades 1;felt 2;fades", 4, 15);
    faultIs(8, "felt 1;fades 2;felt 3;", 4, 15);
    faultIs(8, "fades diner;", 5, 6);
    faultIs(8, "fades feels;", 5, 6);
    faultIs(8, "felt layers;", 5, 5);
    faultIs(8, "felt 1+(layers;", 5, 8);
    StringBuilder many = new StringBuilder("fades 1;");
    for (int i = 0; i < 23; i++) many.append("smith 0;");
    faultIs(8, many.toString(), 0, NONE);
    faultIs(8, many + "  smith 0;", 6, 194);
    faultIs(8, many + "felt", 6, 192);
    faultIs(8, many + "fades 1;", 4, 192);
    faultIs(8, many + "foo", 1, 192);
  }

  private static void ruling() {
    SpoonSet x = withDiners(5, 7);
    x.feel(1, 0, 3);
    due(9, "by(0)", x.by(0), false);
    due(9, "by(NONE)", x.by(NONE), true);
    read(x, "fades 4;felt 11;");
    read(x, "fades 0 - 3;");
    due(9, "by(-2)", x.by(-2), false);
    due(9, "by(2)", x.by(2), false);
    x.eat(0, 0);
    due(9, "layer(0, 0, 2) without", x.layer(0, 0, 2), 1);
    due(9, "tastes(1, 0) without", x.tastes(1, 0), 15);
    due(9, "by(0)", x.by(0), true);
    due(9, "layer(0, 0, 2)", x.layer(0, 0, 2), 4);
    due(9, "tastes(1, 0)", x.tastes(1, 0), 11);
    due(9, "by(1)", x.by(1), true);
    due(9, "fades 0 at least", x.layer(0, 0, 2), 0);
    due(9, "felt of a text without", x.tastes(1, 0), 15);
    due(9, "about(2)", x.about(2), 1);
    due(9, "by(4)", x.by(4), false);
    due(9, "about(2) stays", x.about(2), 1);
    due(9, "by(NONE)", x.by(NONE), true);
    due(9, "about(2)", x.about(2), NONE);
    lawsReckoned();
  }

  /** What a law of felt says: with diner 1 (feels 3 of 0, gives 7) and spoon 2, on it 0, strong 5, under a layer of 1. */
  private static void feltIs(String sum, int want) {
    SpoonSet x = withDiners(5, 7);
    x.feel(1, 0, 3);
    x.eat(0, 2);
    x.eat(1, 2);
    due(9, "text of " + sum, read(x, "felt " + sum + ";"), 0);
    x.by(0);
    due(9, "felt " + sum, x.tastes(1, 2), want);
  }

  private static void lawsReckoned() {
    feltIs("feels", 3);
    feltIs("diner", 1);
    feltIs("mouth", 0);
    feltIs("strong", 5);
    feltIs("deep", 1);
    feltIs("spoon", 2);
    feltIs("day", 0);
    feltIs("99", 99);
    feltIs("100", 99);
    feltIs("0-100", -99);
    feltIs("2+3*4", 14);
    feltIs("(2+3)*4", 20);
    feltIs("20-5-3", 12);
    feltIs("60/6/2", 5);
    feltIs("7/2", 3);
    feltIs("-7/2", -3);
    feltIs("7/-2", -3);
    feltIs("7/0", 0);
    feltIs("-7/0+1", 1);
    feltIs("9999*9999/9999-9", 91);
    feltIs("-9999*9999/9999+9", -91);
    feltIs("9999*9999+9-9999*100-50", 50);
    feltIs("0-9999*9999-9+9999*100+50", -50);
    feltIs("gives 0", 5);
    feltIs("gives 1", 7);
    feltIs("gives 2", 0);
    feltIs("gives -1", 0);
    feltIs("gives 9999", 0);
    feltIs("gives diner*2", 14);
    feltIs("top 2", 2);
    feltIs("top 0", 0);
    feltIs("top 8", 0);
    feltIs("top -1", 0);
    feltIs("top spoon+1", 3);
    feltIs("-top spoon", -2);
    feltIs("if 1<2 then 3 else 4 end", 3);
    feltIs("if 2<2 then 3 else 4 end", 4);
    feltIs("if 2<=2 then 3 else 4 end", 3);
    feltIs("if 3>2 then 3 else 4 end", 3);
    feltIs("if 2>=3 then 3 else 4 end", 4);
    feltIs("if 2=2 then 3 else 4 end+1", 4);
    feltIs("if 2#2 then 3 else 4 end*2", 8);
    feltIs("if not 1=1 or 1=1 then 3 else 4 end", 3);
    feltIs("if 1=1 or 1=1 and 1=2 then 3 else 4 end", 3);
    feltIs("if not 1=2 and not not 1=1 then 3 else 4 end", 3);
    feltIs("if not not not 1=1 then 3 else 4 end", 4);
    feltIs("if 1=2 then 3 else if 1=1 then 5 else 6 end+1 end", 6);
    feltIs("if if 1=1 then 2 else 3 end=2 then 7 else 8 end", 7);
  }

  private static void eating() {
    SpoonSet x = withDiners(9, 2, 1);
    x.feel(1, 0, -7);
    x.feel(2, 0, 5);
    x.feel(2, 1, -3);
    due(10, "eat(3, 0)", x.eat(3, 0), -10000);
    due(10, "eat(-1, 0)", x.eat(-1, 0), -10000);
    due(10, "eat(0, 8)", x.eat(0, 8), -10000);
    due(10, "eat(0, -1)", x.eat(0, -1), -10000);
    due(10, "about(3)", x.about(3), 0);
    due(10, "eat(0, 4)", x.eat(0, 4), 0);
    due(10, "eat(1, 4)", x.eat(1, 4), -63);
    due(10, "eat(1, 4) on its own", x.eat(1, 4), -31);
    due(10, "layer(4, 0, 1)", x.layer(4, 0, 1), 4);
    due(10, "layers(4)", x.layers(4), 2);
    due(10, "eat(2, 4)", x.eat(2, 4), -12 + 22);
    due(10, "is(2)", x.is(2), -63 - 31 + 10);
    due(10, "eat(0, 4)", x.eat(0, 4), 0);
    due(10, "eat(1, 4)", x.eat(1, 4), -63 - 15);
    due(10, "layers(4)", x.layers(4), 5);
    due(10, "eat(2, 4), the lowest goes", x.eat(2, 4), -6 + 22 - 3 + 9);
    due(10, "layers(4)", x.layers(4), 5);
    due(10, "layer(4, 4, 0)", x.layer(4, 4, 0), 1);
    due(10, "layer(4, 0, 0)", x.layer(4, 0, 0), 2);
    SpoonSet y = withDiners(9, 9);
    y.feel(1, 0, 9);
    for (int i = 0; i < 12; i++) y.eat(0, 0);
    due(10, "99 at most", y.layer(0, 0, 1), 99);
    due(10, "felt without a law is 99 at most", y.eat(1, 0), 99);
    feltIsHeldWithoutLaw();
    moodIsHeld(9, 99999);
    moodIsHeld(-9, -99999);
  }

  /** Each layer is held by itself, once it has been cut by how deep it is; the layers together are not held. */
  private static void feltIsHeldWithoutLaw() {
    SpoonSet x = withDiners(5, 5, 9);
    x.feel(2, 0, 9);
    x.feel(2, 1, -9);
    x.eat(0, 0);
    x.polish(0);
    due(10, "tastes, 90 of 10 strong", x.tastes(2, 0), 90);
    x.polish(0);
    due(24, "tastes, 180 held", x.tastes(2, 0), 99);
    x.eat(1, 0);
    due(24, "tastes, 180 by 2 and -45", x.tastes(2, 0), 90 - 45);
    x.polish(0);
    x.polish(0);
    due(24, "tastes, 180 by 2 and -180 held", x.tastes(2, 0), 90 - 99);
    due(25, "worst, held", x.best(true), -9);
    due(49, "said, held", x.said(2, 0, -9), 1);
    read(x, "fades 1;");
    due(50, "whose, without felt, held", x.whose(), 1);
    x.feel(2, 1, 9);
    due(24, "together not held", x.tastes(2, 0), 90 + 99);
    due(10, "together not held", x.eat(2, 0), 189);
    due(21, "is(2)", x.is(2), 189);
    x.feel(0, 1, -5);
    due(10, "100 by 2", x.eat(0, 0), -50);
    SpoonSet y = withDiners(5, 1);
    y.feel(1, 0, 9);
    y.eat(0, 3);
    y.eat(0, 3);
    y.day(1);
    y.feel(1, 0, -9);
    due(10, "-81 of 9 strong", y.tastes(1, 3), -81);
    y.eat(0, 3);
    y.day(3);
    due(10, "-99 of 11 strong", y.tastes(1, 3), -99);
    y.feel(1, 0, 9);
    due(10, "99 of 11 strong", y.tastes(1, 3), 99);
    y.eat(0, 3);
    y.day(4);
    due(10, "108 of 12 strong", y.tastes(1, 3), 99);
    y.feel(1, 0, -9);
    due(10, "-108 of 12 strong", y.eat(1, 3), -99);
  }

  private static void moodIsHeld(int feels, int want) {
    SpoonSet x = withDiners(9, 9, 9, 9, 9, 9);
    for (int a = 0; a < 6; a++) {
      x.card(a, 0);
      for (int b = 0; b < 6; b++) x.feel(a, b, feels);
    }
    read(x, "fades 0;felt feels*99;");
    x.by(0);
    for (int i = 0; i < 2; i++) x.day(60);
    due(10, "MOOD held", x.is(2), want);
    due(10, "eat(0, 0)", Math.abs(x.eat(0, 0)) >= 99 * 3 ? 1 : 0, 1);
    due(10, "MOOD held", x.is(2), want);
  }

  private static void smithAndPolish() {
    SpoonSet x = withDiners(9, 2);
    due(11, "smith(0) of none", x.smith(0), NONE);
    due(12, "polish(0) of none", x.polish(0), NONE);
    due(11, "book", x.book(NONE, 0), 0);
    x.eat(0, 0);
    x.eat(1, 0);
    due(12, "polish(0)", x.polish(0), 4);
    due(12, "polish(0)", x.polish(0), 8);
    due(12, "polish(8)", x.polish(8), NONE);
    due(12, "polish(-1)", x.polish(-1), NONE);
    due(11, "smith(8)", x.smith(8), NONE);
    due(11, "smith(-1)", x.smith(-1), NONE);
    due(11, "smith(0)", x.smith(0), 0);
    due(11, "layer(0, 0, 0)", x.layer(0, 0, 0), 1);
    due(11, "smith(0)", x.smith(0), 1);
    due(11, "smith(0)", x.smith(0), NONE);
    due(11, "nobody's is on top", x.book(5, 3), NONE);
    x.eat(0, 1);
    for (int want : new int[] {18, 36, 72, 99, 99}) due(12, "polish(1)", x.polish(1), want);
    due(12, "about(3)", x.about(3), 12);
  }

  private static void days() {
    SpoonSet x = withDiners(3, 5);
    for (int n : new int[] {0, 61, -1, LOW, HIGH}) due(13, "day(" + n + ")", x.day(n), NONE);
    due(13, "day(1), no cards", x.day(1), 0);
    due(13, "no draw", x.is(1), 461);
    due(13, "is(0)", x.is(0), 1);
    x.card(1, 3);
    // draws: 461 (5 by 8), 25230 (6), 22713 (1), 24863 (7), 4312 (0)
    due(13, "day(4)", x.day(4), 4);
    due(13, "is(1)", x.is(1), 4312);
    due(13, "layer(3, 0, 1)", x.layer(3, 0, 1), 16);
    due(13, "day(1), it stays away", x.day(1), 0);
    due(13, "layer(3, 0, 1)", x.layer(3, 0, 1), 15);
    due(13, "day(60)", x.day(60) > 40 ? 1 : 0, 1);
    due(13, "is(0)", x.is(0), 66);
    fading();
  }

  private static void fading() {
    SpoonSet x = withDiners(2, 3, 4);
    read(x, "fades if deep=0 then 3 else layers*2-deep end;");
    x.eat(0, 0);
    x.eat(1, 0);
    x.eat(2, 0);
    x.by(0);
    // the top: 4 - 3; then deep 1 of 3: 3 - 5 goes at once; then deep 1 of 2: 2 - 3 goes
    x.day(1);
    due(13, "layers(0)", x.layers(0), 1);
    due(13, "layer(0, 0, 0)", x.layer(0, 0, 0), 2);
    due(13, "layer(0, 0, 1)", x.layer(0, 0, 1), 1);
    SpoonSet y = withDiners(1, 9);
    read(y, "fades if layers=1 then 9 else if deep=0 then 4 else 2 end end;");
    y.by(0);
    y.eat(1, 0);
    y.eat(0, 0);
    // the top goes; what was deep 1 is deep 0 of one layer then: 9 - 9
    y.day(1);
    due(13, "those above come down", y.layers(0), 0);
    SpoonSet z = withDiners(1, 9);
    read(z, "fades if top 0=0 then 5 else day end;");
    z.by(0);
    z.eat(1, 1);
    z.eat(0, 0);
    z.day(1);
    due(13, "fades by day 0", z.layer(1, 0, 1), 9);
    due(13, "the day", z.day(1), 0);
    due(13, "spoon 0 is empty ahead of spoon 1", z.layer(1, 0, 1), 4);
  }

  private static void lastDays() {
    SpoonSet x = withDiners(3);
    for (int i = 0; i < 166; i++) x.day(60);
    due(13, "is(0)", x.is(0), 9960);
    due(13, "day(40)", x.day(40), NONE);
    due(13, "nothing is done", x.is(0), 9960);
    due(13, "day(38)", x.day(38), 0);
    read(x, "fades day-9996;diner 4;day 3;smith 0;");
    x.eat(0, 0);
    x.eat(0, 0);
    x.by(0);
    due(20, "fades by day 9998", x.layer(0, 0, 2), 2);
    due(23, "foretold(60, 0), those that can pass", x.foretold(60, 0), 4);
    due(32, "lasts(0, 0), beyond 9999", x.lasts(0, 0), 3);
    due(14, "played(0)", x.played(0), 2);
    due(14, "those that can pass do", x.is(0), 9999);
    due(14, "about(0)", x.about(0), 2);
    due(13, "day(1)", x.day(1), NONE);
    due(23, "foretold(1, 0)", x.foretold(1, 0), 4);
    due(15, "years(0, 40), no dinner can pass", x.years(0, 40), 9999);
    x.undo();
    due(16, "undo of the dinner", x.undo() > 0 ? 1 : 0, 1);
    due(16, "is(0)", x.is(0), 9998);
  }

  private static void playing() {
    SpoonSet x = new SpoonSet();
    due(14, "played(0)", x.played(0), -2);
    read(x, "fades 2;diner 4;diner 2;eat 0 with 2;eat 1 with 2;card 0 at 2;polish 2;day 2;smith 2;felt 1;");
    due(14, "played(-1)", x.played(-1), -2);
    due(14, "played(1)", x.played(1), -2);
    due(14, "played(0)", x.played(0), NONE);
    due(14, "about(0)", x.about(0), 2);
    due(14, "of(0, 1)", x.of(0, 1), 2);
    due(14, "is(0)", x.is(0), 2);
    due(14, "steps", x.about(3), 6);
    // 0: 4; 1: 2, then 4; 0 eats twice on top (4, 3, 7, 6), each fades by 1 a dinner; 4 - 2 is taken by the smith
    due(14, "layers(2)", x.layers(2), 2);
    due(14, "layer(2, 0, 1)", x.layer(2, 0, 1), 6);
    due(14, "layer(2, 1, 1)", x.layer(2, 1, 1), 2);
    stopsAt("smith 0;diner 1;", 0, 0);
    stopsAt("diner 1;polish 0;diner 1;", 1, 1);
    stopsAt("felt 1;diner 1;eat 1 with 0;", 2, 1);
    stopsAt("card 0 at 0;", 0, 0);
    stopsAt("diner 1;diner 1;diner 1;diner 1;diner 1;diner 1;diner 1;", 6, 6);
    stopsAt("diner 1;card 0 at 7;eat 0 with 7;polish 7;smith 7;day 60;", NONE, 1);
  }

  private static void stopsAt(String text, int want, int diners) {
    SpoonSet x = new SpoonSet();
    read(x, text);
    due(14, "played of " + text, x.played(0), want);
    due(14, "what was done stays", x.about(0), diners);
  }

  private static void years() {
    SpoonSet x = withDiners(3, 5);
    due(15, "years(-1, 1)", x.years(-1, 1), NONE);
    due(15, "years(10000, 1)", x.years(10000, 1), NONE);
    due(15, "years(0, 0)", x.years(0, 0), NONE);
    due(15, "years(0, 41)", x.years(0, 41), NONE);
    due(15, "about(3)", x.about(3), 0);
    // X is 461: a dinner; then 25230: 25230 / 6 mod 6 is 5, nobody; then 22713: polish of 22713 / 6 mod 8 = 1, nothing there
    due(15, "years(0, 3)", x.years(0, 3), 1);
    due(15, "is(1)", x.is(1), 24863);
    due(15, "one step", x.about(3), 1);
    due(15, "years(9999, 40)", x.years(9999, 40) > 1 ? 1 : 0, 1);
    yearsEat();
    yearsSmithAndPolish();
  }

  private static int x1(int x) { return (x * 727 + 593) % 31051; }

  private static void yearsEat() {
    SpoonSet x = withDiners(1, 2, 3, 4, 5, 6);
    // seed 0, then 25230 is next: 0 by 6: diner 5 eats with spoon 6
    due(15, "years(0, 2)", x.years(0, 2), 1);
    due(15, "layer(6, 0, 0)", x.layer(6, 0, 0), 5);
    due(15, "layer(6, 0, 1)", x.layer(6, 0, 1), 6);
    // a seed whose first x is 1 by 6
    int seed = 0;
    while ((seed * 2 + 461) % 6 != 1) seed++;
    int first = seed * 2 + 461;
    int had = x.of(first / 6 % 6, 3);
    x.years(seed, 1);
    due(15, "of", x.of(first / 6 % 6, 3), had + first / 6 % 6 + 1);
    due(15, "is(1)", x.is(1), x1(first));
  }

  /** All first draws of years are odd, so the smith is sought at the second. */
  private static void yearsSmithAndPolish() {
    for (int seed = 0; seed < 400; seed++) {
      int first = seed * 2 + 461;
      int second = x1(first);
      SpoonSet x = withDiners(2, 3);
      for (int s = 0; s < 8; s++) {
        x.eat(0, s);
        x.eat(1, s);
      }
      if (first % 6 == 3) {
        x.years(seed, 1);
        due(15, "polished by " + first, x.is(4), first % 4 == 1 ? 40 + 3 : 40);
        due(15, "polished by " + first, x.layer(first / 6 % 8, 0, 1), first % 4 == 1 ? 6 : 3);
      }
      if (first % 6 == 3 && first % 4 != 1 && second % 6 == 2) {
        x.years(seed, 2);
        due(15, "the smith by " + second, x.layers(second / 6 % 8), second % 4 == 0 ? 1 : 2);
      }
    }
  }

  private static void undoing() {
    SpoonSet x = withDiners(3, 5);
    due(16, "undo() of none", x.undo(), NONE);
    x.feel(1, 0, 2);
    x.card(0, 1);
    x.eat(0, 0);
    x.eat(1, 0);
    x.polish(0);
    x.smith(0);
    x.day(2);
    x.years(5, 10);
    due(16, "about(3)", x.about(3), 7);
    due(16, "undo()", x.undo(), 6);
    due(16, "is(0)", x.is(0), 2);
    due(16, "is(1)", x.is(1), x1(x1(461)));
    due(16, "undo()", x.undo(), 5);
    due(16, "is(0)", x.is(0), 1);
    due(16, "undo()", x.undo(), 4);
    due(16, "is(1)", x.is(1), 461);
    due(16, "book", x.book(NONE, 0), 4);
    due(16, "undo()", x.undo(), 3);
    due(16, "layers(0)", x.layers(0), 2);
    due(16, "undo()", x.undo(), 2);
    due(16, "layer(0, 0, 1)", x.layer(0, 0, 1), 5);
    due(16, "is(2)", x.is(2), 6);
    due(16, "undo()", x.undo(), 1);
    due(16, "is(2)", x.is(2), 0);
    due(16, "undo()", x.undo(), 0);
    due(16, "is(3)", x.is(3), 255);
    due(16, "undo()", x.undo(), NONE);
    due(16, "what is told stays", x.feels(1, 0), 2);
    for (int i = 0; i < 40; i++) x.eat(0, 2);
    due(16, "the latest 30", x.about(3), 30);
    for (int i = 29; i >= 0; i--) due(16, "undo()", x.undo(), i);
    due(16, "undo()", x.undo(), NONE);
    due(16, "layer(2, 0, 1)", x.layer(2, 0, 1), 30);
    due(16, "book", x.book(NONE, 0), 10);
    x.day(60);
    due(16, "about(3)", x.about(3), 30);
    for (int i = 0; i < 30; i++) x.undo();
    due(16, "is(0)", x.is(0), 30);
  }

  private static void ofDiners() {
    SpoonSet x = withDiners(3, 5);
    x.eat(0, 0);
    x.eat(1, 0);
    x.eat(0, 0);
    x.eat(0, 7);
    x.card(0, 4);
    due(17, "of(0, 0)", x.of(0, 0), 3);
    due(17, "of(0, 1)", x.of(0, 1), 4);
    due(17, "of(0, 2)", x.of(0, 2), 3);
    due(17, "of(0, 3)", x.of(0, 3), 9);
    due(17, "of(1, 2)", x.of(1, 2), 1);
    due(17, "of(0, 4)", x.of(0, 4), -2);
    due(17, "of(0, -1)", x.of(0, -1), -2);
    due(17, "of(2, 0)", x.of(2, 0), -2);
    due(17, "of(-1, 0)", x.of(-1, 0), -2);
  }

  private static void layersAndAll() {
    SpoonSet x = withDiners(3, 5);
    x.eat(0, 1);
    x.eat(1, 1);
    due(19, "layers(1)", x.layers(1), 2);
    due(19, "layers(8)", x.layers(8), NONE);
    due(19, "layers(-1)", x.layers(-1), NONE);
    due(20, "layer(1, 0, 0)", x.layer(1, 0, 0), 1);
    due(20, "layer(1, 1, 0)", x.layer(1, 1, 0), 0);
    due(20, "layer(1, 0, 1)", x.layer(1, 0, 1), 5);
    due(20, "layer(1, 1, 1)", x.layer(1, 1, 1), 3);
    due(20, "layer(1, 1, 2)", x.layer(1, 1, 2), 1);
    due(20, "layer(1, 2, 0)", x.layer(1, 2, 0), NONE);
    due(20, "layer(1, -1, 0)", x.layer(1, -1, 0), NONE);
    due(20, "layer(1, LOW, 0)", x.layer(1, LOW, 0), NONE);
    due(20, "layer(1, 0, 3)", x.layer(1, 0, 3), NONE);
    due(20, "layer(1, 0, -1)", x.layer(1, 0, -1), NONE);
    due(20, "layer(8, 0, 0)", x.layer(8, 0, 0), NONE);
    due(20, "layer(-1, 0, 0)", x.layer(-1, 0, 0), NONE);
    read(x, "fades deep*4+layers*strong;");
    x.by(0);
    due(20, "fades 9 at most", x.layer(1, 0, 2), 9);
    read(x, "fades deep*4+layers;");
    x.by(1);
    due(20, "layer(1, 1, 2)", x.layer(1, 1, 2), 6);
    due(21, "is(3)", x.is(3), 253);
    due(21, "is(4)", x.is(4), 8);
    due(21, "is(5)", x.is(5), -100000);
    due(21, "is(-1)", x.is(-1), -100000);
  }

  private static void book() {
    SpoonSet x = withDiners(3, 5);
    due(22, "book(NONE, 0)", x.book(NONE, 0), 0);
    due(22, "book(0, 0)", x.book(0, 0), -2);
    x.day(2);
    x.eat(1, 6);
    x.polish(6);
    x.smith(6);
    int[][] want = {{2, 0, 6, 1}, {2, 2, 6, 1}, {2, 1, 6, NONE}};
    for (int i = 0; i < 3; i++) for (int w = 0; w < 4; w++) due(22, "book(" + i + ", " + w + ")", x.book(i, w), want[i][w]);
    due(22, "book(3, 0)", x.book(3, 0), -2);
    due(22, "book(-2, 0)", x.book(-2, 0), -2);
    due(22, "book(0, 4)", x.book(0, 4), -2);
    due(22, "book(0, -1)", x.book(0, -1), -2);
    due(22, "book(NONE, 3)", x.book(NONE, 3), 3);
    for (int i = 0; i < 24; i++) x.eat(i % 2, i % 8);
    due(22, "the latest 25", x.book(NONE, 0), 25);
    due(22, "book(0, 1)", x.book(0, 1), 1);
    due(22, "book(1, 2)", x.book(1, 2), 0);
    due(22, "book(24, 2)", x.book(24, 2), 7);
    due(22, "book(25, 2)", x.book(25, 2), -2);
    due(55, "ledger(0)", x.ledger(0), 12);
    due(55, "ledger(1)", x.ledger(1), 12);
    due(55, "ledger(2)", x.ledger(2), -2);
    due(55, "ledger(NONE)", x.ledger(NONE), -2);
  }

  private static void foretelling() {
    SpoonSet x = withDiners(3, 5);
    x.eat(0, 1);
    x.card(1, 2);
    due(23, "foretold(1, 1)", x.foretold(1, 1), 2);
    due(23, "foretold(3, 1)", x.foretold(3, 1), 0);
    due(23, "foretold(4, 2)", x.foretold(4, 2), 16);
    due(23, "foretold(5, 2)", x.foretold(5, 2), 15);
    due(23, "foretold(0, 2)", x.foretold(0, 2), NONE);
    due(23, "foretold(61, 2)", x.foretold(61, 2), NONE);
    due(23, "foretold(1, 8)", x.foretold(1, 8), NONE);
    due(23, "foretold(1, -1)", x.foretold(1, -1), NONE);
    due(23, "nothing is changed", x.is(1), 461);
    due(23, "nothing is changed", x.is(4), 3);
    due(23, "nothing is changed", x.about(3), 1);
  }

  private static void tasting() {
    SpoonSet x = withDiners(3, 5, 1);
    x.feel(2, 0, -4);
    x.feel(2, 1, 7);
    x.feel(0, 1, 1);
    x.eat(0, 3);
    x.eat(1, 3);
    due(24, "tastes(2, 3)", x.tastes(2, 3), 35 - 6);
    due(24, "tastes(0, 3)", x.tastes(0, 3), 5);
    due(24, "tastes(1, 3)", x.tastes(1, 3), 0);
    due(24, "tastes(2, 0)", x.tastes(2, 0), 0);
    due(24, "tastes(3, 0)", x.tastes(3, 0), -10000);
    due(24, "tastes(NONE, 0)", x.tastes(NONE, 0), -10000);
    due(24, "tastes(0, 8)", x.tastes(0, 8), -10000);
    due(24, "tastes(0, -1)", x.tastes(0, -1), -10000);
    due(24, "nothing is changed", x.layers(3), 2);
  }

  private static void layings() {
    SpoonSet x = new SpoonSet();
    due(25, "best(false) without diners", x.best(false), 0);
    due(25, "best(true) without diners", x.best(true), 0);
    due(27, "layings() without diners", x.layings(), 1);
    due(26, "laid(0)", x.laid(0), NONE);
    for (int i = 0; i < 6; i++) x.diner(i + 1);
    due(27, "layings()", x.layings(), 20160);
    for (int d = 0; d < 6; d++) due(26, "laid(" + d + ")", x.laid(d), d);
    due(26, "laid(6)", x.laid(6), NONE);
    due(26, "laid(-1)", x.laid(-1), NONE);
    SpoonSet y = withDiners(2, 2, 2);
    y.eat(2, 5);
    y.eat(2, 1);
    y.eat(2, 1);
    y.feel(0, 2, 3);
    y.feel(1, 2, 4);
    // spoon 1 is worth 12 to 0 and 16 to 1; spoon 5 is worth 6 to 0 and 8 to 1
    due(25, "best(false)", y.best(false), 22);
    due(26, "laid(0)", y.laid(0), 5);
    due(26, "laid(1)", y.laid(1), 1);
    due(26, "laid(2)", y.laid(2), 0);
    due(27, "layings()", y.layings(), 6);
    due(25, "best(true)", y.best(true), 0);
    y.feel(1, 2, -4);
    due(25, "best(true)", y.best(true), -16);
    due(25, "best(false)", y.best(false), 12);
    due(26, "laid(1)", y.laid(1), 0);
  }

  private static void mouthsOnSpoons() {
    SpoonSet x = withDiners(3, 5, 2);
    x.eat(0, 1);
    x.eat(1, 1);
    x.eat(0, 1);
    x.eat(0, 4);
    x.eat(0, 4);
    x.eat(1, 6);
    due(28, "rid(1, 0)", x.rid(1, 0), 3);
    due(28, "rid(1, 1)", x.rid(1, 1), 2);
    due(28, "rid(1, 2)", x.rid(1, 2), 0);
    due(28, "rid(0, 0)", x.rid(0, 0), 0);
    due(28, "rid(8, 0)", x.rid(8, 0), NONE);
    due(28, "rid(-1, 0)", x.rid(-1, 0), NONE);
    due(28, "rid(1, 3)", x.rid(1, 3), NONE);
    due(28, "rid(1, NONE)", x.rid(1, NONE), NONE);
    due(29, "alone(0)", x.alone(0), 16);
    due(29, "alone(1)", x.alone(1), 64);
    due(29, "alone(2)", x.alone(2), 0);
    due(29, "alone(3)", x.alone(3), NONE);
    due(29, "alone(-1)", x.alone(-1), NONE);
    due(30, "strongest(0), of like ones", x.strongest(0), 1);
    x.eat(0, 4);
    due(30, "strongest(0)", x.strongest(0), 4);
    due(30, "strongest(1), of like ones", x.strongest(1), 1);
    due(30, "strongest(2)", x.strongest(2), NONE);
    due(30, "strongest(3)", x.strongest(3), NONE);
    due(30, "strongest(-1)", x.strongest(-1), NONE);
    due(31, "thin(0)", x.thin(0), 0);
    due(31, "thin(2)", x.thin(2), 0);
    due(31, "thin(3)", x.thin(3), 2);
    due(31, "thin(5)", x.thin(5), 4);
    due(31, "thin(99)", x.thin(99), 5);
    due(31, "thin(100)", x.thin(100), NONE);
    due(31, "thin(-1)", x.thin(-1), NONE);
  }

  private static void lasting() {
    SpoonSet x = withDiners(3, 9);
    x.eat(0, 1);
    x.eat(1, 1);
    due(32, "lasts(1, 0)", x.lasts(1, 0), 9);
    due(32, "lasts(1, 1)", x.lasts(1, 1), 3);
    due(32, "lasts(1, 2)", x.lasts(1, 2), NONE);
    due(32, "lasts(1, -1)", x.lasts(1, -1), NONE);
    due(32, "lasts(8, 0)", x.lasts(8, 0), NONE);
    due(32, "lasts(-1, 0)", x.lasts(-1, 0), NONE);
    x.card(0, 1);
    due(32, "nobody eats", x.lasts(1, 1), 3);
    x.eat(1, 5);
    for (int i = 0; i < 3; i++) x.polish(5);
    due(32, "not by 60", x.lasts(5, 0), NONE);
    for (int i = 0; i < 4; i++) x.undo();
    read(x, "fades if top 1=0 then 9 else if spoon=1 then 3 else 0 end end;");
    x.by(0);
    x.eat(1, 5);
    x.polish(5);
    // spoon 1 is empty behind 3 dinners, and spoon 5 then fades by 9 from the third on
    due(32, "all spoons fade", x.lasts(5, 0), 4);
    read(x, "fades 0;");
    x.by(1);
    due(32, "never", x.lasts(1, 0), NONE);
    SpoonSet y = withDiners(1, 9, 6);
    // the top one goes first; the lowest is followed as those above come down
    y.eat(1, 0);
    y.eat(0, 0);
    y.eat(2, 0);
    due(32, "lasts(0, 2)", y.lasts(0, 2), 9);
    due(32, "lasts(0, 1)", y.lasts(0, 1), 1);
    due(32, "lasts(0, 0)", y.lasts(0, 0), 6);
    y.polish(0);
    for (int i = 0; i < 8; i++) y.eat(2, 0);
    due(32, "by 60", y.lasts(0, 0), 60);
    y.eat(1, 0);
    y.eat(2, 0);
    due(32, "lasts(0, 2)", y.lasts(0, 2), 60);
    due(32, "nothing is changed", y.layers(0), 5);
  }

  private static void clues() {
    SpoonSet x = withDiners(3, 5);
    x.eat(0, 0);
    x.eat(0, 1);
    x.eat(1, 1);
    x.eat(1, 2);
    x.eat(0, 2);
    x.eat(1, 2);
    due(34, "which()", x.which(), 255);
    due(35, "ask()", x.ask(), 0);
    due(33, "clue(0, 1)", x.clue(0, 1), 1);
    due(34, "which()", x.which(), 6);
    due(35, "ask(): alike so deep as 1, not 2", x.ask(), 2);
    due(33, "clue(2, NONE)", x.clue(2, NONE), 2);
    due(34, "which()", x.which(), 2);
    due(35, "ask() of one", x.ask(), NONE);
    due(33, "clue(1, 1)", x.clue(1, 1), 3);
    due(34, "which() of none", x.which(), 0);
    due(35, "ask() of none", x.ask(), NONE);
    due(33, "clue(5, 0)", x.clue(5, 0), -2);
    due(33, "clue(-2, 0)", x.clue(-2, 0), -2);
    due(33, "clue(0, 2)", x.clue(0, 2), -2);
    due(33, "clue(0, -2)", x.clue(0, -2), -2);
    due(33, "clue(4, 0)", x.clue(4, 0), 4);
    due(33, "clue(4, 0)", x.clue(4, 0), 5);
    due(33, "clue(4, 0)", x.clue(4, 0), 6);
    due(33, "the 7th", x.clue(4, 0), -2);
    due(33, "about(4)", x.about(4), 6);
    due(33, "clue(NONE, 0)", x.clue(NONE, 0), 0);
    due(34, "which()", x.which(), 255);
    due(33, "clue(0, NONE)", x.clue(0, NONE), 1);
    due(34, "which()", x.which(), 248);
    due(35, "ask(), all alike", x.ask(), 0);
  }

  private static void meeting() {
    SpoonSet x = withDiners(3, 5, 1, 1, 1, 1);
    x.eat(0, 0);
    x.eat(1, 0);
    x.eat(1, 3);
    x.eat(2, 3);
    x.eat(2, 7);
    x.eat(3, 7);
    x.eat(0, 5);
    x.eat(1, 5);
    due(36, "where(0)", x.where(0), 33);
    due(36, "where(1)", x.where(1), 41);
    due(36, "where(4)", x.where(4), 0);
    due(36, "where(6)", x.where(6), NONE);
    due(36, "where(-1)", x.where(-1), NONE);
    due(37, "meets(0, 1)", x.meets(0, 1), 33);
    due(37, "meets(0, 2)", x.meets(0, 2), 0);
    due(37, "meets(2, 2)", x.meets(2, 2), 136);
    due(37, "meets(6, 0)", x.meets(6, 0), NONE);
    due(37, "meets(0, -1)", x.meets(0, -1), NONE);
    due(38, "link(0, 0)", x.link(0, 0), 0);
    due(38, "link(0, 1)", x.link(0, 1), 1);
    due(38, "link(0, 2)", x.link(0, 2), 2);
    due(38, "link(3, 0)", x.link(3, 0), 3);
    due(38, "link(0, 4)", x.link(0, 4), NONE);
    due(38, "link(4, 4)", x.link(4, 4), 0);
    x.eat(3, 1);
    x.eat(4, 1);
    x.eat(4, 2);
    x.eat(5, 2);
    due(38, "link(0, 5)", x.link(0, 5), 5);
    due(38, "link(6, 0)", x.link(6, 0), NONE);
    due(38, "link(0, -1)", x.link(0, -1), NONE);
    due(38, "link(0, 32)", x.link(0, 32), NONE);
    due(38, "link(32, 0)", x.link(32, 0), NONE);
  }

  private static void thief() {
    SpoonSet x = new SpoonSet();
    due(39, "test(1, true) without diners", x.test(1, true), -2);
    due(41, "surest()", x.surest(), NONE);
    due(40, "suspects(8)", x.suspects(8), 0);
    for (int i = 0; i < 4; i++) x.diner(1);
    due(40, "suspects(0) without tests", x.suspects(0), 15);
    due(41, "surest() without tests", x.surest(), 0);
    due(39, "test(6, true)", x.test(6, true), 1);
    due(39, "test(12, true)", x.test(12, true), 2);
    due(39, "test(4, false)", x.test(4, false), 3);
    due(40, "suspects(0)", x.suspects(0), 0);
    due(40, "suspects(1)", x.suspects(1), 14);
    due(40, "suspects(2)", x.suspects(2), 15);
    due(41, "surest()", x.surest(), 1);
    due(40, "suspects(-1)", x.suspects(-1), NONE);
    due(40, "suspects(9)", x.suspects(9), NONE);
    due(39, "test(16, true)", x.test(16, true), -2);
    due(39, "test(-2, true)", x.test(-2, true), -2);
    due(39, "test(HIGH, true)", x.test(HIGH, true), -2);
    for (int i = 4; i <= 8; i++) due(39, "test(8, true)", x.test(8, true), i);
    due(39, "the 9th", x.test(8, true), -2);
    due(41, "surest()", x.surest(), 3);
    due(39, "about(5)", x.about(5), 8);
    due(39, "test(NONE, true)", x.test(NONE, true), 0);
    due(40, "suspects(0)", x.suspects(0), 15);
    for (int i = 1; i <= 8; i++) due(39, "test(0, true) of nobody", x.test(0, true), i);
    due(40, "suspects(7), all 8 wrong", x.suspects(7), 0);
    due(40, "suspects(8)", x.suspects(8), 15);
    due(41, "surest(), all 8 wrong", x.surest(), 0);
  }

  private static void houses() {
    SpoonSet x = new SpoonSet();
    due(42, "house(8, 0)", x.house(8, 0), false);
    due(42, "house(0, 8)", x.house(0, 8), false);
    due(42, "house(-1, 0)", x.house(-1, 0), false);
    due(42, "house(0, -1)", x.house(0, -1), false);
    // 0 -> 1 -> 2 -> 3 -> 4 -> 2, 5 -> 6 -> 5, 7 stays
    int[] next = {1, 2, 3, 4, 2, 6, 5, 7};
    for (int h = 0; h < 8; h++) due(42, "house(" + h + ", " + next[h] + ")", x.house(h, next[h]), true);
    due(43, "goes(0, 0)", x.goes(0, 0), 0);
    due(43, "goes(0, 1)", x.goes(0, 1), 1);
    due(43, "goes(0, 7)", x.goes(0, 7), 4);
    due(43, "goes(0, 8)", x.goes(0, 8), 2);
    due(43, "goes(0, 9)", x.goes(0, 9), 3);
    due(43, "goes(0, 1000000)", x.goes(0, 1000000), 2 + (1000000 - 2) % 3);
    due(43, "goes(5, 999999)", x.goes(5, 999999), 6);
    due(43, "goes(7, 5)", x.goes(7, 5), 7);
    due(43, "goes(0, 1000001)", x.goes(0, 1000001), NONE);
    due(43, "goes(0, -1)", x.goes(0, -1), NONE);
    due(43, "goes(8, 0)", x.goes(8, 0), NONE);
    due(43, "goes(-1, 0)", x.goes(-1, 0), NONE);
    due(44, "meet(3, 3)", x.meet(3, 3), 0);
    due(44, "meet(1, 4)", x.meet(1, 4), 1);
    due(44, "meet(3, 0)", x.meet(3, 0), 2);
    due(44, "meet(0, 1)", x.meet(0, 1), NONE);
    due(44, "meet(5, 6)", x.meet(5, 6), NONE);
    due(44, "meet(8, 0)", x.meet(8, 0), NONE);
    due(44, "meet(0, -1)", x.meet(0, -1), NONE);
    due(45, "comes(2)", x.comes(2), 31);
    due(45, "comes(1)", x.comes(1), 3);
    due(45, "comes(0)", x.comes(0), 1);
    due(45, "comes(5)", x.comes(5), 96);
    due(45, "comes(7)", x.comes(7), 128);
    due(45, "comes(8)", x.comes(8), NONE);
    due(45, "comes(-1)", x.comes(-1), NONE);
    for (int h = 0; h < 8; h++) x.house(h, h == 7 ? 7 : h + 1);
    due(44, "meet(0, 7)", x.meet(0, 7), 7);
    due(45, "comes(7)", x.comes(7), 255);
    due(43, "goes(0, 7)", x.goes(0, 7), 7);
  }

  private static void game() {
    SpoonSet x = new SpoonSet();
    due(46, "value(8, 1, 1)", x.value(8, 1, 1), false);
    due(46, "value(-1, 1, 1)", x.value(-1, 1, 1), false);
    due(46, "value(0, 100, 1)", x.value(0, 100, 1), false);
    due(46, "value(0, -1, 1)", x.value(0, -1, 1), false);
    due(46, "value(0, 1, 100)", x.value(0, 1, 100), false);
    due(46, "value(0, 1, -1)", x.value(0, 1, -1), false);
    due(46, "value(0, 99, 0)", x.value(0, 99, 0), true);
    due(46, "value(1, 0, 99)", x.value(1, 0, 99), true);
    due(46, "value(2, 10, 20)", x.value(2, 10, 20), true);
    due(47, "game(0)", x.game(0), 0);
    due(47, "game(1)", x.game(1), 99);
    due(47, "game(2)", x.game(2), 0);
    due(47, "game(3)", x.game(3), 0);
    due(48, "pick(3), of like ones", x.pick(3), 0);
    // 0 first, then she 1, then 2: 99 - 99 + 10; 1 first, then she 2, then 0: 0 - 20 + 99
    due(47, "game(7)", x.game(7), 10);
    due(48, "pick(7)", x.pick(7), 0);
    due(48, "pick(6)", x.pick(6), 1);
    due(47, "game(256)", x.game(256), -1000);
    due(47, "game(-1)", x.game(-1), -1000);
    due(48, "pick(0)", x.pick(0), NONE);
    due(48, "pick(256)", x.pick(256), NONE);
    due(48, "pick(-1)", x.pick(-1), NONE);
    due(48, "pick(128)", x.pick(128), 7);
    SpoonSet y = new SpoonSet();
    for (int s = 0; s < 8; s++) y.value(s, 8 - s, s * 2);
    // together 8, 9, 10 .. 15: each picks the highest that is left
    due(47, "game(255)", y.game(255), 1 + 3 + 5 + 7 - 12 - 8 - 4 - 0);
    due(48, "pick(255)", y.pick(255), 7);
    for (int s = 0; s < 8; s++) y.value(s, 0, 99);
    due(47, "game(255), all hers", y.game(255), -4 * 99);
    due(48, "pick(255), all alike", y.pick(255), 0);
    for (int s = 0; s < 8; s++) y.value(s, 99, 0);
    due(47, "game(255), all the first's", y.game(255), 4 * 99);
  }

  private static void whoseLaw() {
    SpoonSet x = withDiners(3, 5);
    x.feel(1, 0, 2);
    x.eat(0, 2);
    due(50, "whose() without texts", x.whose(), 0);
    read(x, "felt feels;");
    read(x, "felt strong;");
    read(x, "fades 3;");
    read(x, "felt feels*3/feels-1;");
    due(50, "whose() without said", x.whose(), 15);
    due(49, "said(1, 2, 6)", x.said(1, 2, 6), 1);
    due(50, "whose(), without felt as the document says", x.whose(), 4);
    due(49, "said(NONE, 0, 0)", x.said(NONE, 0, 0), 0);
    due(49, "said(1, 2, 2)", x.said(1, 2, 2), 1);
    due(50, "whose()", x.whose(), 9);
    x.feel(1, 0, 5);
    due(50, "whose(), as now", x.whose(), 8);
    due(49, "said(1, 3, 0)", x.said(1, 3, 0), 2);
    due(50, "whose()", x.whose(), 8);
    due(49, "said(1, 2, 1)", x.said(1, 2, 1), 3);
    due(50, "whose()", x.whose(), 0);
    due(49, "said(2, 0, 0)", x.said(2, 0, 0), -2);
    due(49, "said(-2, 0, 0)", x.said(-2, 0, 0), -2);
    due(49, "said(0, 8, 0)", x.said(0, 8, 0), -2);
    due(49, "said(0, -1, 0)", x.said(0, -1, 0), -2);
    due(49, "said(0, 0, 1000)", x.said(0, 0, 1000), -2);
    due(49, "said(0, 0, -1000)", x.said(0, 0, -1000), -2);
    due(49, "said(0, 0, 999)", x.said(0, 0, 999), 4);
    due(49, "said(0, 0, -999)", x.said(0, 0, -999), 5);
    for (int i = 6; i <= 8; i++) due(49, "said(0, 0, 0)", x.said(0, 0, 0), i);
    due(49, "the 9th", x.said(0, 0, 0), -2);
    due(49, "about(6)", x.about(6), 8);
    due(49, "said(NONE, 9, 9999)", x.said(NONE, 9, 9999), 0);
  }

  private static void standingOut() {
    SpoonSet x = withDiners(3, 5, 2);
    due(51, "gladdest()", x.gladdest(), NONE);
    due(54, "eldest()", x.eldest(), NONE);
    due(53, "feud(false)", x.feud(false), NONE);
    due(52, "loved(0)", x.loved(0), NONE);
    x.eat(1, 6);
    x.eat(0, 3);
    x.eat(2, 3);
    due(51, "gladdest(), of like ones", x.gladdest(), 3);
    due(54, "eldest(), of like ones", x.eldest(), 0);
    x.eat(1, 1);
    due(54, "eldest()", x.eldest(), 1);
    x.eat(0, 6);
    due(51, "gladdest()", x.gladdest(), 6);
    x.feel(0, 1, 4);
    x.feel(0, 2, 4);
    x.feel(2, 0, -9);
    due(52, "loved(0), of like ones", x.loved(0), 1);
    x.feel(0, 2, 5);
    due(52, "loved(0)", x.loved(0), 2);
    due(52, "loved(2)", x.loved(2), NONE);
    due(52, "loved(3)", x.loved(3), NONE);
    due(52, "loved(-1)", x.loved(-1), NONE);
    due(53, "feud(false)", x.feud(false), 0);
    due(53, "feud(true)", x.feud(true), 2);
    x.feel(1, 2, -2);
    x.feel(2, 1, -2);
    due(53, "feud(false), of like ones", x.feud(false), 0);
    due(53, "feud(true), of like ones", x.feud(true), 2);
    x.feel(0, 2, 6);
    due(53, "feud(false)", x.feud(false), 1);
    due(53, "feud(true)", x.feud(true), 2);
    x.feel(0, 2, 9);
    x.feel(1, 2, 9);
    due(53, "feud(false), none below 0", x.feud(false), NONE);
    due(53, "feud(true), none below 0", x.feud(true), NONE);
  }

  private static void images() {
    SpoonSet x = withDiners(3, 5);
    x.feel(0, 1, 4);
    x.card(0, 2);
    read(x, "fades 2;");
    x.by(0);
    x.eat(0, 0);
    x.day(3);
    x.clue(0, 0);
    x.test(1, true);
    x.said(0, 0, 5);
    x.house(0, 5);
    x.value(0, 7, 8);
    due(56, "image()", x.image(), 3);
    int strong = x.is(4);
    int drawn = x.is(1);
    x.diner(9);
    x.feel(0, 1, 1);
    x.card(0, NONE);
    read(x, "fades 3;felt 3;");
    x.by(1);
    x.eat(1, 4);
    x.years(77, 30);
    x.clue(NONE, 0);
    x.test(NONE, true);
    x.said(NONE, 0, 0);
    x.house(0, 1);
    x.value(0, 1, 1);
    onTape(x, "smith 9;");
    x.text();
    onTape(x, "smith 1");
    for (int i = 0; i < 2; i++) {
      due(57, "back()", x.back(), 3);
      int[] want = {2, 1, 0, 4, 1, 1, 1, 7};
      for (int w = 0; w < 8; w++) due(57, "about(" + w + ")", x.about(w), want[w]);
      due(57, "feels(0, 1)", x.feels(0, 1), 4);
      due(57, "of(0, 1)", x.of(0, 1), 2);
      due(57, "is(4)", x.is(4), strong);
      due(57, "is(1)", x.is(1), drawn);
      due(57, "goes(0, 1)", x.goes(0, 1), 5);
      due(57, "game(1)", x.game(1), 7);
      due(57, "the latest fault stays", x.fault(0), 2);
      due(57, "the latest fault stays", x.fault(1), 6);
      for (int k = 3; k >= 0; k--) due(57, "undo() behind back()", x.undo(), k);
      due(57, "is(3)", x.is(3), 255);
      x.diner(8);
    }
    x.back();
    onTape(x, "fades 7;");
    due(57, "text() behind back()", x.text(), 1);
    x.eat(1, 0);
    due(57, "the image's text rules yet", x.layer(0, 0, 2), 2);
  }

  private static void about() {
    SpoonSet x = withDiners(3);
    read(x, "");
    read(x, "");
    x.by(1);
    x.eat(0, 0);
    x.clue(0, 0);
    x.clue(0, 0);
    x.test(1, true);
    x.said(0, 0, 0);
    x.said(0, 0, 0);
    x.said(0, 0, 0);
    x.feed(0, 0, 0, 0, 0);
    int[] want = {1, 2, 1, 1, 2, 1, 3, 20};
    for (int w = 0; w < 8; w++) due(58, "about(" + w + ")", x.about(w), want[w]);
    due(58, "about(8)", x.about(8), -2);
    due(58, "about(-1)", x.about(-1), -2);
  }
}
