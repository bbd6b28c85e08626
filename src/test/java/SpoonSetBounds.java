import java.io.IOException;

/** The sentences of the document's parts I to V that name a boundary case, each with a test of its own. */
public final class SpoonSetBounds extends BoundTest {
  public static void main(String[] args) throws IOException {
    readDocument();
    usedFor512Calls();
    spoonsAreEight();
    layersAreFive();
    strongIs1To99();
    dinersAreSix();
    givesIs1To9();
    feelsIsWithin9();
    cardAtFirst();
    moodIsWithin99999();
    dinnerIsWithin9999();
    firstX();
    bookOf25();
    ownAreNotAsked();
    moodIsHeld();
    ownIsStronger();
    newIsOnTop();
    smithTakesLowest();
    polishedIsTwice();
    drawsOfADinner();
    fading();
    noDinnerBeyond9999();
    writtenDown();
    latest30();
    kindsOfSteps();
    textsOf300Bytes();
    blanksAndLetters();
    digits();
    signs();
    clausesAre24();
    lawsOnce();
    givesOfOthers();
    topOfOthers();
    asks();
    namesAtTheirEnds();
    divisions();
    heldAtEachStep();
    bothSides();
    firstFault();
    placeOfFault();
    leastFault();
    cannotStand();
    wrongNumbers();
    tooDeep();
    lawAgain();
    strangeName();
    tooManyClauses();
    textRules();
    fadesIsHeld();
    feltIsHeld();
    playing();
    askingChangesNothing();
    foretelling();
    layings();
    bestLaying();
    ridding();
    alone();
    strongest();
    thin();
    lasting();
    clues();
    which();
    whatToAsk();
    linking();
    tests();
    suspects();
    surest();
    housesAreEight();
    meeting();
    coming();
    values();
    game();
    picking();
    whoseLaw();
    gladdest();
    loved();
    feuding();
    eldest();
    byTheBook();
    seedsAndTimes();
    drawsOfYears();
    yearsAreOneStep();
    images();
    constant();
    end(PARTS, PARTS);
  }

  // ---- I

  private static void usedFor512Calls() {
    says(PARTS, "An object is used for at most 512 calls after it has been made");
    SpoonSet x = withDiners(1, 2);
    for (int i = 0; i < 480; i++) x.eat(i % 2, i % 3);
    for (int i = 29; i >= 1; i--) due("undo()", x.undo(), i);
    due("the 512th call", x.about(3), 1);
  }

  private static void spoonsAreEight() {
    says(PARTS, "SPOONS 0 .. 7, each with");
    SpoonSet spoons = withDiners(4);
    each("layers", spoons::layers, 0, 0, 7);
    each("layers", spoons::layers, NONE, -1, 8, LOW, HIGH);
    each("eat(0, .)", s -> spoons.eat(0, s), -10000, -1, 8, LOW, HIGH);
    each("eat(0, .)", s -> spoons.eat(0, s), 0, 0, 7);
    due("is(3)", spoons.is(3), 126);
  }

  private static void layersAreFive() {
    says(PARTS, "LAYERS (5 at most; at first none)");
    SpoonSet full = withDiners(1, 2, 3, 4, 5, 6);
    for (int s = 0; s < 8; s++) due("layers(" + s + ")", full.layers(s), 0);
    for (int d = 0; d < 6; d++) {
      full.eat(d, 3);
      due("layers(3)", full.layers(3), Math.min(5, d + 1));
    }
    for (int i = 0; i < 5; i++) due("layer(3, " + i + ", 0)", full.layer(3, i, 0), 5 - i);
    due("layer(3, 5, 0)", full.layer(3, 5, 0), NONE);
  }

  private static void strongIs1To99() {
    says(PARTS, "how STRONG (1 .. 99)");
    SpoonSet strong = withDiners(1, 2);
    eatsWith(strong, 0, 0);
    eatsWith(strong, 1, 1);
    strong.day(1);
    due("1 less 1 is gone", strong.layers(0), 0);
    due("2 less 1 is 1", strong.layer(1, 0, 1), 1);
    polishes(strong, 1, 7);
    due("128 is 99", strong.layer(1, 0, 1), 99);
  }

  private static void dinersAreSix() {
    says(PARTS, "DINERS 0 .. 5 (told one by one)");
    SpoonSet diners = new SpoonSet();
    for (int d = 0; d < 6; d++) {
      due("of(" + d + ", 0) ahead of it", diners.of(d, 0), -2);
      due("diner(3)", diners.diner(3), d);
      due("of(" + d + ", 0)", diners.of(d, 0), 3);
    }
    due("a seventh", diners.diner(3), NONE);
    each("of(., 0)", d -> diners.of(d, 0), -2, -1, 6);
  }

  private static void givesIs1To9() {
    says(PARTS, "what each GIVES 1 .. 9");
    SpoonSet gives = new SpoonSet();
    each("diner", gives::diner, NONE, 0, 10);
    due("diner(1)", gives.diner(1), 0);
    due("diner(9)", gives.diner(9), 1);
    eatsWith(gives, 0, 0);
    eatsWith(gives, 1, 1);
    due("layer(0, 0, 1)", gives.layer(0, 0, 1), 1);
    due("layer(1, 0, 1)", gives.layer(1, 0, 1), 9);
  }

  private static void feelsIsWithin9() {
    says(PARTS, "what it FEELS of others (told; -9 .. 9; at first 0)");
    SpoonSet feels = withDiners(1, 1);
    due("feels(0, 1) at first", feels.feels(0, 1), 0);
    for (int f : new int[] {-9, 9}) {
      due("feel(0, 1, " + f + ")", feels.feel(0, 1, f), true);
      due("feels(0, 1)", feels.feels(0, 1), f);
    }
    each("feel(0, 1, .)", f -> bit(feels.feel(0, 1, f)), 0, -10, 10);
    due("feels(0, 1)", feels.feels(0, 1), 9);
    due("feels(1, 0) at first", feels.feels(1, 0), 0);
    SpoonSet all = withDiners(1, 1, 1, 1, 1, 1);
    for (int d = 0; d < 6; d++) for (int m = 0; m < 6; m++) all.feel(d, m, d - 2 * m);
    for (int d = 0; d < 6; d++) for (int m = 0; m < 6; m++) due("feels(" + d + ", " + m + ")", all.feels(d, m), d == m || d - 2 * m < -9 ? 0 : d - 2 * m);
  }

  private static void cardAtFirst() {
    says(PARTS, "its CARD (told: a SPOON; at first none)");
    SpoonSet card = withDiners(1);
    due("of(0, 1) at first", card.of(0, 1), NONE);
    due("day(1) without a card", card.day(1), 0);
    due("card(0, 7)", card.card(0, 7), true);
    due("of(0, 1)", card.of(0, 1), 7);
    due("day(1)", card.day(1), 1);
  }

  /** Diner 1 has eaten with spoon 0, on which 0's layer is, till MOOD is the target; then text 1 rules, by which it is felt what it feels. */
  private static SpoonSet withMood(int target) {
    SpoonSet x = withDiners(1, 1);
    int sign = target < 0 ? -1 : 1;
    read(x, "fades 0;felt feels*11;");
    read(x, "fades 0;felt feels;");
    x.by(0);
    eatsWith(x, 0, 0, 1);
    x.feel(1, 0, 9 * sign);
    x.card(1, 0);
    for (int i = 0; i < 60 && Math.abs(target - x.is(2)) > 6000; i++) x.day(60);
    for (int i = 0; i < 70 && Math.abs(target - x.is(2)) >= 99; i++) x.eat(1, 0);
    x.by(1);
    for (int i = 0; i < 30 && x.is(2) != target; i++) {
      x.feel(1, 0, sign * Math.min(9, Math.abs(target - x.is(2))));
      x.eat(1, 0);
    }
    due("MOOD", x.is(2), target);
    return x;
  }

  private static void moodIsWithin99999() {
    says(PARTS, "MOOD -99999 .. 99999 (at first 0)");
    due("is(2)", new SpoonSet().is(2), 0);
    for (int sign : new int[] {1, -1}) {
      SpoonSet x = withMood(99998 * sign);
      x.feel(1, 0, sign);
      due("eat(1, 0)", x.eat(1, 0), sign);
      due("the last there is", x.is(2), 99999 * sign);
      x.feel(1, 0, -sign);
      x.eat(1, 0);
      due("and down again", x.is(2), 99998 * sign);
    }
  }

  private static void dinnerIsWithin9999() {
    says(PARTS, "DINNER 0 .. 9999 (at first 0)");
    SpoonSet late = new SpoonSet();
    due("is(0)", late.is(0), 0);
    pass(late, 9998);
    due("day(1)", late.day(1), 0);
    due("is(0)", late.is(0), 9999);
    due("day(1)", late.day(1), NONE);
    due("is(0)", late.is(0), 9999);
  }

  private static void firstX() {
    says(PARTS, "X: at first 461");
    due("is(1)", new SpoonSet().is(1), 461);
  }

  private static void bookOf25() {
    says(PARTS, "BOOK (the latest 25)");
    SpoonSet x = withDiners(1, 2);
    for (int i = 0; i < 27; i++) {
      x.eat(i % 2, i % 8);
      due("book(NONE, 0)", x.book(NONE, 0), Math.min(25, i + 1));
    }
    for (int i = 0; i < 25; i++) {
      due("book(" + i + ", 2)", x.book(i, 2), (i + 2) % 8);
      due("book(" + i + ", 3)", x.book(i, 3), (i + 2) % 2);
    }
    due("book(25, 2)", x.book(25, 2), -2);
  }

  private static void ownAreNotAsked() {
    says(PARTS, "it has FELT what felt says (as it is then) of each LAYER that isn't its own (its own aren't asked), together");
    SpoonSet own = ruledBy("felt 50;", 1, 1, 1);
    due("of no layer", own.eat(0, 0), 0);
    due("of its own alone", own.eat(0, 0), 0);
    due("of one", own.eat(1, 0), 50);
    due("of one under its own", own.eat(1, 0), 50);
    due("of one over its own", own.eat(0, 0), 50);
    due("of three", own.eat(2, 0), 150);
    SpoonSet then = ruledBy("felt top spoon*10+strong;", 7, 1, 1);
    eatsWith(then, 4, 0);
    due("0 is on top then", then.eat(1, 4), 17);
  }

  private static void moodIsHeld() {
    says(PARTS, "MOOD is more by that (held)");
    for (int sign : new int[] {1, -1}) {
      SpoonSet x = withMood(99995 * sign);
      x.feel(1, 0, 9 * sign);
      due("eat(1, 0) is felt whole", x.eat(1, 0), 9 * sign);
      due("is(2), held", x.is(2), 99999 * sign);
      x.eat(1, 0);
      due("is(2), held yet", x.is(2), 99999 * sign);
      x.feel(1, 0, -9 * sign);
      x.eat(1, 0);
      due("what was beyond is lost", x.is(2), 99990 * sign);
      x.feel(1, 0, 9 * sign);
      x.day(60);
      due("held at dinners", x.is(2), 99999 * sign);
    }
  }

  private static void ownIsStronger() {
    says(PARTS, "Then the top LAYER, if it is its own, is as much STRONGER as it GIVES (99 at most)");
    SpoonSet ones = withDiners(1, 9);
    for (int i = 1; i <= 101; i++) {
      ones.eat(0, 0);
      if (i >= 97) due("layer(0, 0, 1)", ones.layer(0, 0, 1), Math.min(i, 99));
    }
    due("layers(0)", ones.layers(0), 1);
    for (int i = 1; i <= 12; i++) ones.eat(1, 1);
    due("108 is 99", ones.layer(1, 0, 1), 99);
    due("eat(1, 0)", ones.eat(1, 0), 0);
    due("another one's isn't", ones.layer(0, 0, 1), 9);
    due("it is under it", ones.layer(0, 1, 1), 99);
  }

  private static void newIsOnTop() {
    says(PARTS, "else a new one is on top, so STRONG (of a SPOON with 5 the lowest one goes)");
    SpoonSet x = eatsWith(withDiners(3, 5), 7, 0, 1, 0, 1);
    due("4 layers", x.layers(7), 4);
    due("layer(7, 3, 0)", x.layer(7, 3, 0), 0);
    x.eat(0, 7);
    due("5 layers", x.layers(7), 5);
    due("none goes yet", x.layer(7, 4, 0), 0);
    x.eat(0, 7);
    due("its own on top: none goes", x.layer(7, 4, 0), 0);
    due("layer(7, 0, 1)", x.layer(7, 0, 1), 6);
    x.eat(1, 7);
    due("5 layers", x.layers(7), 5);
    due("the lowest is gone", x.layer(7, 4, 0), 1);
    due("the new one", x.layer(7, 0, 1), 5);
    due("that under it", x.layer(7, 1, 1), 6);
  }

  private static void smithTakesLowest() {
    says(PARTS, "THE SMITH takes the lowest LAYER of a SPOON.");
    SpoonSet x = eatsWith(withDiners(3, 5), 7, 0, 1, 0, 1, 0);
    for (int left = 4; left >= 0; left--) {
      due("smith(7)", x.smith(7), left % 2);
      due("layers(7)", x.layers(7), left);
    }
    due("smith(7) of none", x.smith(7), NONE);
  }

  private static void polishedIsTwice() {
    says(PARTS, "POLISHED: the top one is twice as STRONG (99 at most).");
    SpoonSet seven = eatsWith(withDiners(7), 0, 0, 0, 0, 0, 0, 0, 0);
    due("49 is 98", seven.polish(0), 98);
    due("98 is 99", seven.polish(0), 99);
    due("99 is 99", seven.polish(0), 99);
    SpoonSet five = eatsWith(withDiners(5, 4), 0, 1, 0, 0, 0, 0, 0, 0, 0, 0, 0, 0);
    due("50 is 99", five.polish(0), 99);
    due("what is under it stays", five.layer(0, 1, 1), 4);
  }

  private static void drawsOfADinner() {
    says(PARTS, "DINERS with a CARD by number: a draw by 8 (X mod 8, X being (X * 727 + 593) mod 31051 then): 0: it stays away, else it has EATEN with that SPOON.");
    SpoonSet x = ruledBy("fades 0;", 1, 1, 1);
    x.card(2, 5);
    x.card(0, 4);
    int drawn = 461;
    int lower = 0;
    int higher = 0;
    for (int i = 0; i < 100; i++) {
      int first = bit(drawn % 8 != 0);
      drawn = nextX(drawn);
      int second = bit(drawn % 8 != 0);
      drawn = nextX(drawn);
      lower += first;
      higher += second;
      due("day(1)", x.day(1), first + second);
      due("is(1)", x.is(1), drawn);
      due("how often 0 has eaten", x.of(0, 3), lower);
      due("how often 2 has eaten", x.of(2, 3), higher);
      if (i == 0) due("the lower one eats first", x.book(0, 2) * 10 + x.book(1, 2), 45);
    }
    due("both have stayed away at times", lower < 100 && higher < 100 && lower != higher, true);
    due("who has no card has no spoon", x.of(1, 2), 0);
  }

  private static void fading() {
    says(PARTS, "LAYERS from the top down are less STRONG by fades (each as all is then, deep and layers, too; what isn't more than 0 goes at once, those above come down)");
    SpoonSet exact = eatsWith(ruledBy("fades 3;", 2, 3, 4), 0, 0, 1, 2);
    exact.day(1);
    due("2 and 3 less 3 are gone", exact.layers(0), 1);
    due("4 less 3 comes down", exact.layer(0, 0, 1), 1);
    due("whose it is", exact.layer(0, 0, 0), 2);
    SpoonSet middle = eatsWith(ruledBy("fades if mouth=1 then 9 else 0 end;", 2, 9, 4), 0, 0, 1, 2);
    middle.day(1);
    due("the middle one goes", middle.layers(0), 2);
    due("what was above it", middle.layer(0, 0, 0), 2);
    due("what was under it", middle.layer(0, 1, 0), 0);
    SpoonSet then = eatsWith(ruledBy("fades if layers=3 then 5 else if layers=2 then 2 else 0 end end;", 9, 5, 5), 0, 0, 1, 2);
    then.day(1);
    due("the top goes of 3, the next is less by 2 of 2, the lowest too", then.layers(0), 2);
    due("layer(0, 0, 1)", then.layer(0, 0, 1), 3);
    due("layer(0, 1, 1)", then.layer(0, 1, 1), 7);
    SpoonSet deep = eatsWith(ruledBy("fades if deep=0 then 5 else 1 end;", 9, 5, 5), 0, 0, 1, 2);
    deep.day(1);
    due("each is the top one as the one above goes", deep.layers(0), 1);
    due("9 less 5", deep.layer(0, 0, 1), 4);
    SpoonSet top = eatsWith(eatsWith(ruledBy("fades if top 3=0 then 7 else if top 5=0 then 2 else 1 end end;", 1, 9), 3, 0), 5, 0);
    eatsWith(eatsWith(eatsWith(top, 2, 1), 4, 1), 6, 1);
    top.day(1);
    due("spoon 2 ahead of both", top.layer(2, 0, 1), 8);
    due("spoon 4, 3 being gone", top.layer(4, 0, 1), 2);
    due("spoon 6, both being gone", top.layer(6, 0, 1), 2);
  }

  private static void noDinnerBeyond9999() {
    says(PARTS, "DINNER is one more (at 9999 none can pass)");
    SpoonSet late = withDiners(9);
    late.card(0, 1);
    pass(late, 9998);
    late.day(1);
    due("is(0)", late.is(0), 9999);
    int[] ahead = looks(late);
    due("day(1)", late.day(1), NONE);
    same("nothing is done", ahead, looks(late));
  }

  private static void writtenDown() {
    says(PARTS, "Eaten, by the smith, polished (whose LAYER is on top then; NONE: nobody's) are written down.");
    SpoonSet x = eatsWith(withDiners(1, 2), 6, 0, 1);
    x.polish(6);
    x.smith(6);
    x.smith(6);
    int[][] lines = {{0, 0}, {0, 1}, {2, 1}, {1, 1}, {1, NONE}};
    for (int i = 0; i < 5; i++) {
      due("book(" + i + ", 1)", x.book(i, 1), lines[i][0]);
      due("book(" + i + ", 3)", x.book(i, 3), lines[i][1]);
    }
    x.smith(6);
    x.polish(6);
    x.eat(2, 6);
    due("what can't be isn't written", x.book(NONE, 0), 5);
    x.card(0, 2);
    x.day(1);
    due("eaten at a dinner, and gone behind it", x.book(5, 3), 0);
    due("layers(2)", x.layers(2), 0);
  }

  private static void latest30() {
    says(PARTS, "the latest 30 can be taken back, the latest first (LAYERS, MOOD, DINNER, X, BOOK are as ahead of it)");
    SpoonSet steps = withDiners(1, 1);
    for (int i = 1; i <= 31; i++) {
      steps.eat(0, 0);
      due("about(3)", steps.about(3), Math.min(i, 30));
    }
    for (int i = 30; i >= 1; i--) {
      due("undo()", steps.undo(), i - 1);
      due("layer(0, 0, 1)", steps.layer(0, 0, 1), i);
      due("book(NONE, 0)", steps.book(NONE, 0), Math.min(25, i));
    }
    due("undo()", steps.undo(), NONE);
    due("the first of 31 stays", steps.layer(0, 0, 1), 1);
    for (int n : new int[] {29, 30, 31, 60}) {
      SpoonSet days = eatsWith(withDiners(1), 0, 0);
      days.day(n);
      due("steps behind day(" + n + ")", days.about(3), Math.min(30, n + 1));
      for (int i = 0; i < 30; i++) days.undo();
      due("is(0)", days.is(0), Math.max(0, n - 30));
      due("layers(0)", days.layers(0), bit(n == 30));
    }
    bookIsTakenBack();
    stepsGoAround();
  }

  private static void bookIsTakenBack() {
    SpoonSet x = withDiners(1, 2);
    for (int i = 0; i < 26; i++) x.eat(i % 2, i % 8);
    due("the first line is gone", x.book(0, 2), 1);
    x.undo();
    for (int i = 0; i < 25; i++) due("it is there again, book(" + i + ", 2)", x.book(i, 2), i % 8);
    x.undo();
    x.polish(0);
    due("book(24, 1)", x.book(24, 1), 2);
    x.undo();
    due("book(24, 1)", x.book(24, 1), -2);
  }

  /** Steps and takings back in turn, so that what can be taken back lies around the end of any row that holds it. */
  private static void stepsGoAround() {
    SpoonSet x = withDiners(1);
    for (int i = 0; i < 37; i++) x.eat(0, 0);
    for (int i = 0; i < 11; i++) x.undo();
    due("26 eaten, 19 to take back", x.about(3), 19);
    for (int i = 0; i < 7; i++) x.eat(0, 0);
    due("33 eaten, 26 to take back", x.about(3), 26);
    for (int i = 0; i < 29; i++) x.eat(0, 0);
    due("62 eaten", x.layer(0, 0, 1), 62);
    due("30 to take back", x.about(3), 30);
    for (int i = 61; i >= 32; i--) {
      due("undo()", x.undo(), i - 32);
      due("layer(0, 0, 1)", x.layer(0, 0, 1), i);
    }
    due("undo()", x.undo(), NONE);
  }

  private static void kindsOfSteps() {
    says(PARTS, "STEPS: EATEN by hand, THE SMITH, POLISHED, a DINNER (each), YEARS (see V):");
    SpoonSet kinds = eatsWith(withDiners(9, 9), 0, 0, 1);
    kinds.feel(0, 1, 5);
    kinds.card(0, 0);
    kinds.eat(0, 0);
    kinds.smith(0);
    kinds.polish(0);
    due("steps", kinds.about(3), 5);
    kinds.day(3);
    due("a dinner each", kinds.about(3), 8);
    kinds.years(5, 40);
    due("years are one", kinds.about(3), 9);
    kinds.undo();
    due("behind 3 dinners", kinds.is(0), 3);
    due("X", kinds.is(1), nextX(nextX(nextX(461))));
    for (int i = 2; i >= 0; i--) {
      kinds.undo();
      due("dinners", kinds.is(0), i);
    }
    due("polished", kinds.layer(0, 0, 1), 18);
    kinds.undo();
    due("not polished", kinds.layer(0, 0, 1), 9);
    kinds.undo();
    due("the smith hasn't come", kinds.layers(0), 3);
    due("MOOD", kinds.is(2), 45);
    kinds.undo();
    due("not eaten", kinds.layers(0), 2);
    due("MOOD", kinds.is(2), 0);
    due("steps", kinds.about(3), 2);
  }

  // ---- II

  private static void faultIs(String text, int fault, int place) {
    SpoonSet x = new SpoonSet();
    due("text() of \"" + text + "\"", read(x, text), fault == 0 ? 0 : NONE);
    due("fault(0) of \"" + text + "\"", x.fault(0), fault);
    due("fault(1) of \"" + text + "\"", x.fault(1), place);
  }

  private static void isGood(String text) { faultIs(text, 0, NONE); }

  private static boolean isLetter(int b) { return b >= 'a' && b <= 'z' || b >= 'A' && b <= 'Z'; }

  private static void textsOf300Bytes() {
    says(PARTS, "TEXTS 0 .. 3: of up to 300 bytes.");
    SpoonSet x = new SpoonSet();
    for (int t = 0; t <= 3; t++) {
      due("by(" + t + ") ahead of it", x.by(t), false);
      due("text()", read(x, "smith " + t + ";"), t);
      due("by(" + t + ")", x.by(t), true);
    }
    due("a fifth", read(x, "smith 4;"), NONE);
    due("by(4)", x.by(4), false);
    due("by(-2)", x.by(-2), false);
    isGood("");
    isGood("felt " + times("1+", 146) + "1 ;");
    isGood(times(" ", 292) + "smith 0;");
    faultIs(times(" ", 300 - 3) + "fel", 1, 297);
    faultIs(times(" ", 300 - 4) + "felt", 1, 300);
    faultIs(times(" ", 300 - 7) + "smith 0", 1, 300);
    faultIs(times(" ", 300 - 7) + "smith 8", 2, 299);
    faultIs(times(" ", 300 - 10) + "felt if 1<", 1, 300);
    SpoonSet longest = eatsWith(ruledBy("felt " + times("1-", 145) + "1+99;", 1, 1), 0, 0);
    due("all of 300 bytes is read", longest.tastes(1, 0), 1 - 145 + 99);
  }

  private static void blanksAndLetters() {
    says(PARTS, "TOKENS, blanks (32, 10) aside: letters a .. z, A .. Z one behind the other (one TOKEN)");
    for (int b = 0; b < 256; b++) {
      String text = "smith" + (char) b + "0;";
      if (b == 32 || b == 10 || b == '0') isGood(text);
      else if (isLetter(b)) faultIs(text, 1, 0);
      else if (b >= '1' && b <= '9') faultIs(text, 2, 5);
      else faultIs(text, 1, 5);
    }
    isGood("\n\n  \nsmith 0;\n \n");
    faultIs("smi th 0;", 1, 0);
    faultIs("smi\nth 0;", 1, 0);
    faultIs("SMITH 0;", 1, 0);
  }

  private static void digits() {
    says(PARTS, "digits likewise (NUMBERS, 0 .. 9999)");
    isGood("felt 0;");
    isGood("felt 9999;");
    isGood("felt 0000009999;");
    faultIs("felt 10000;", 2, 5);
    faultIs("felt 99 99;", 1, 8);
    SpoonSet number = eatsWith(ruledBy("felt 9999-9950;", 1, 1), 0, 0);
    due("9999 less 9950", number.tastes(1, 0), 49);
  }

  private static void signs() {
    says(PARTS, "<= >= < > = # + - * / ( ) ; (the longest)");
    for (int b = 0; b < 256; b++) {
      String text = "felt 1" + (char) b + "1;";
      boolean sign = "+-*/".indexOf(b) >= 0;
      if (sign || b >= '0' && b <= '9') isGood(text);
      else faultIs(text, 1, b == 32 || b == 10 || b == ';' ? 7 : 6);
    }
    for (int b = 0; b < 256; b++) {
      String text = "felt if 1" + (char) b + "1 then 1 else 2 end;";
      boolean sum = "+-*/".indexOf(b) >= 0 || b >= '0' && b <= '9';
      if ("<>=#".indexOf(b) >= 0) isGood(text);
      else faultIs(text, 1, sum ? 12 : b == 32 || b == 10 ? 10 : 9);
    }
    faultIs("felt 1<=", 1, 6);
    faultIs("felt 1>=1;", 1, 6);
    isGood("felt if 1<=2 then 1 else 2 end;");
    isGood("felt if 1>=2 then 1 else 2 end;");
    faultIs("felt if 1< =2 then 1 else 2 end;", 1, 11);
    faultIs("felt if 1> =2 then 1 else 2 end;", 1, 11);
    faultIs("felt if 1<==2 then 1 else 2 end;", 1, 11);
    faultIs("felt if 1=<2 then 1 else 2 end;", 1, 10);
    faultIs("felt if 1=>2 then 1 else 2 end;", 1, 10);
    faultIs("felt if 1<>2 then 1 else 2 end;", 1, 10);
    faultIs("felt if 1==2 then 1 else 2 end;", 1, 10);
    faultIs("felt if 1##2 then 1 else 2 end;", 1, 10);
  }

  /** What a law of felt says to diner 1 (it gives 8 and feels -4 of 0) of 0's layer (7 strong) on spoon 2, which is under its own. */
  private static void feltIs(String sum, int want) {
    SpoonSet x = eatsWith(ruledBy("felt " + sum + ";", 7, 8), 2, 0, 1);
    x.feel(1, 0, -4);
    due("felt " + sum, x.tastes(1, 2), want);
  }

  private static void clausesAre24() {
    says(PARTS, "{CLAUSE}, 24 at most");
    isGood("");
    isGood(" \n");
    isGood(times("smith 0;", 24));
    faultIs(times("smith 0;", 25), 6, 192);
    SpoonSet all = withDiners(1);
    eatsWith(all, 0, 0);
    read(all, times("polish 0;", 23) + "smith 0;");
    due("played(0)", all.played(0), NONE);
    due("the 24th is done", all.layers(0), 0);
  }

  private static void lawsOnce() {
    says(PARTS, "fades SUM ; or felt SUM ; (each once)");
    isGood("fades 1;felt 1;");
    isGood("felt 1;smith 0;fades 1;");
    for (String laws : new String[] {"fades 2;felt 3;", "felt 3;fades 2;", "felt 1+2;smith 0;fades 1*2;"}) {
      SpoonSet each = eatsWith(ruledBy(laws, 1, 1), 0, 0);
      due("fades of " + laws, each.layer(0, 0, 2), 2);
      due("felt of " + laws, each.tastes(1, 0), 3);
    }
    faultIs("fades 1;fades 1;", 4, 8);
    faultIs("felt 1;felt 1;", 4, 7);
    faultIs("fades;", 1, 5);
    faultIs("felt ;", 1, 5);
  }

  private static void givesOfOthers() {
    says(PARTS, "gives ONE (what the DINER of that number GIVES; 0 for others)");
    feltIs("gives 0", 7);
    feltIs("gives 1", 8);
    feltIs("gives 2", 0);
    feltIs("gives 6", 0);
    feltIs("gives -1", 0);
    feltIs("gives 9999", 0);
    feltIs("gives (9999*9999)", 0);
    feltIs("gives (-9999*9999)", 0);
    SpoonSet six = eatsWith(ruledBy("felt gives 5*10+gives 6;", 1, 2, 3, 4, 5, 6), 0, 0);
    due("six diners", six.tastes(1, 0), 60);
  }

  private static void topOfOthers() {
    says(PARTS, "top ONE (1 and whose LAYER is on top of the SPOON of that number; 0: none, and for others)");
    feltIs("top 2", 2);
    feltIs("top 3", 0);
    feltIs("top 8", 0);
    feltIs("top -1", 0);
    feltIs("top 9999", 0);
    feltIs("top (9999*9999)", 0);
    feltIs("top (-9999*9999)", 0);
    SpoonSet ends = withDiners(1, 2, 3, 4, 5, 6);
    eatsWith(eatsWith(ends, 0, 0), 7, 5);
    ends.by(read(ends, "felt top 0*10+top 7;"));
    due("0 on the first, 5 on the last", ends.tastes(1, 0), 16);
  }

  private static void asks() {
    says(PARTS, "ASK: not ASK, or SUM one of < <= > >= = # (unlike) SUM.");
    String[] signs = {"<", "<=", ">", ">=", "=", "#"};
    int[][] holds = {{1, 0, 0}, {1, 1, 0}, {0, 0, 1}, {0, 1, 1}, {0, 1, 0}, {1, 0, 1}};
    for (int i = 0; i < 6; i++) {
      for (int a = 0; a < 3; a++) {
        feltIs("if " + (6 + a) + signs[i] + "strong then 1 else 0 end", holds[i][a]);
        feltIs("if not " + (6 + a) + signs[i] + "strong then 1 else 0 end", 1 - holds[i][a]);
      }
    }
    faultIs("felt if 1 then 1 else 2 end;", 1, 10);
    faultIs("felt if not then 1 else 2 end;", 1, 12);
    faultIs("felt if 1<2<3 then 1 else 2 end;", 1, 11);
  }

  private static void namesAtTheirEnds() {
    says(PARTS, "deep (how many are above it) in both; layers (how many the SPOON has) in fades; diner, feels (what it FEELS of the mouth) in felt");
    SpoonSet deep = eatsWith(ruledBy("fades deep;felt if deep=4 then 9 else 0 end;", 5, 5, 5), 0, 0, 1, 0, 1, 0);
    for (int i = 0; i < 5; i++) due("fades deep", deep.layer(0, i, 2), i);
    due("felt deep", deep.tastes(2, 0), 9);
    SpoonSet layers = ruledBy("fades layers;", 5, 5);
    for (int i = 1; i <= 6; i++) {
      layers.eat(i % 2, 0);
      due("fades layers", layers.layer(0, 0, 2), Math.min(i, 5));
    }
    feltIs("deep", 1);
    feltIs("diner", 1);
    feltIs("feels", -4);
  }

  private static void divisions() {
    says(PARTS, "From the left; / cuts towards 0, by 0 it is 0;");
    feltIs("20-5-3", 12);
    feltIs("60/7/2", 4);
    feltIs("60/7*2", 16);
    feltIs("5/6", 0);
    feltIs("6/6", 1);
    feltIs("-5/6", 0);
    feltIs("-11/6", -1);
    feltIs("11/-6", -1);
    feltIs("-11/-6", 1);
    feltIs("-12/6", -2);
    feltIs("5/0", 0);
    feltIs("-5/0", 0);
    feltIs("0/0", 0);
    feltIs("9/(3-3)+1", 1);
  }

  private static void heldAtEachStep() {
    says(PARTS, "what is above 1000000 (below the same less) is that, at each step.");
    // 9999 * 100 is 999900, so that what is less by it can be felt
    for (String sign : new String[] {"", "-"}) {
      int way = sign.isEmpty() ? 1 : -1;
      feltIs(sign + "(9999*100+99-9999*100-50)", 49 * way);
      feltIs(sign + "(9999*100+100-9999*100-50)", 50 * way);
      feltIs(sign + "(9999*100+101-9999*100-50)", 50 * way);
      feltIs(sign + "(9999*100+9999-9999*100-50)", 50 * way);
      feltIs(sign + "(9999*100+109-9-9999*100-50)", 41 * way);
      feltIs(sign + "(9999*101-9999*100-50)", 50 * way);
      feltIs(sign + "(9999*9999/9999-50)", 50 * way);
      feltIs(sign + "((9999*9999)*(9999*9999)-9999*100-50)", 50 * way);
      feltIs(sign + "(9999*9999+9999*9999-9999*100-50)", 50 * way);
    }
    feltIs("0-9999*100-99+9999*100+50", -49);
    feltIs("0-9999*100-100+9999*100+50", -50);
    feltIs("0-9999*100-101+9999*100+50", -50);
    feltIs("0-9999*100-109+9+9999*100+50", -41);
    feltIs("-9999*9999+9999*100+50", -50);
    feltIs("(9999*9999)*(-9999*9999)+9999*100+50", -50);
    feltIs("-(-9999*9999)-9999*100-50", 50);
    feltIs("if 9999*100+101=9999*9999 then 1 else 2 end", 1);
  }

  private static void bothSides() {
    says(PARTS, "or and and look at both sides always, of if just the SUM that is chosen is asked.");
    feltIs("if 1=1 or 1/0=1 then 3 else 4/0 end", 3);
    feltIs("if 1=2 and 1/0=0 then 3/0 else 4 end", 4);
    feltIs("if 1=2 or 1=1 then 3 else 4 end", 3);
    feltIs("if 1=1 or 1=2 then 3 else 4 end", 3);
    feltIs("if 1=2 or 2=1 then 3 else 4 end", 4);
    feltIs("if 1=1 and 2=2 then 3 else 4 end", 3);
    feltIs("if 1=2 and 2=2 then 3 else 4 end", 4);
    feltIs("if 1=1 and 1=2 then 3 else 4 end", 4);
    feltIs("if 1=1 or 1=1 and 1=2 then 3 else 4 end", 3);
    feltIs("if 1=1 then 3 else 4 end+10", 13);
    feltIs("if 1=2 then 3 else 4 end*10-1", 39);
    feltIs("2*if 1=1 then if 1=2 then 3 else 4 end else 5/0 end+1", 9);
  }

  private static void firstFault() {
    says(PARTS, "FAULTS, the first as TOKENS are come to,");
    faultIs("smith 8;foo", 2, 6);
    faultIs("foo 10000;", 1, 0);
    faultIs("fades feels 10000;", 5, 6);
    faultIs("fades 10000 feels;", 2, 6);
    faultIs("fades 1;fades (((((((((", 4, 8);
  }

  private static void placeOfFault() {
    says(PARTS, "at the TOKEN's first byte (of the end at the length),");
    faultIs("\n  smithy 0;", 1, 3);
    faultIs("smith   12345;", 2, 8);
    faultIs("smith 0", 1, 7);
    faultIs("smith 0 \n ", 1, 10);
    faultIs("smith", 1, 5);
    faultIs("felt (1", 1, 7);
    faultIs("felt if 1<2 then 3 else 4", 1, 25);
    faultIs("felt " + times("1+", 147) + " ", 1, 300);
  }

  private static void leastFault() {
    says(PARTS, "of one the least:");
    faultIs("smith 0 10000;", 1, 8);
    faultIs("10000;", 1, 0);
    faultIs("felt ((((((((1(", 1, 14);
    faultIs("felt ((((((((not", 1, 13);
    faultIs("felt 1 layers;", 1, 7);
    faultIs("felt layers;", 5, 5);
    faultIs("fades 1;" + times("smith 0;", 23) + "fades 1;", 4, 192);
    faultIs("fades 1;" + times("smith 0;", 23) + "felt 1;", 6, 192);
    faultIs(times("smith 0;", 24) + "strong 1;", 1, 192);
    faultIs(times("smith 0;", 24) + ";", 1, 192);
  }

  private static void cannotStand() {
    says(PARTS, "1 it can't stand there, or is none.");
    faultIs(";", 1, 0);
    faultIs("smith 0;;", 1, 8);
    faultIs("strong 1;", 1, 0);
    faultIs("felt strange;", 1, 5);
    faultIs("felt 1 & 2;", 1, 7);
    faultIs("felt 1;" + (char) 0, 1, 7);
    faultIs("felt 1;" + (char) 255, 1, 7);
    faultIs("diner;", 1, 5);
    faultIs("card at 9;", 1, 5);
    faultIs("card 0 0;", 1, 7);
    faultIs("card 0 at;", 1, 9);
    faultIs("eat with 9;", 1, 4);
    faultIs("eat 0 at 0;", 1, 6);
    faultIs("eat 0 with;", 1, 10);
    faultIs("smith -1;", 1, 6);
    faultIs("polish strong;", 1, 7);
    faultIs("day (1);", 1, 4);
    faultIs("felt ();", 1, 6);
    faultIs("felt 1);", 1, 6);
    faultIs("felt (1;", 1, 7);
    faultIs("felt (1<2);", 1, 7);
    faultIs("felt gives;", 1, 10);
    faultIs("felt top;", 1, 8);
    faultIs("felt -;", 1, 6);
    faultIs("felt 1+;", 1, 7);
    faultIs("felt *1;", 1, 5);
    faultIs("felt if 1<2 else 3 end;", 1, 12);
    faultIs("felt if 1<2 then 3 end;", 1, 19);
    faultIs("felt if 1<2 then 3 else 4;", 1, 25);
    faultIs("felt if 1<2 and then 3 else 4 end;", 1, 16);
    faultIs("felt if 1<2 or then 3 else 4 end;", 1, 15);
    faultIs("felt 1 or 2;", 1, 7);
    faultIs("felt end;", 1, 5);
  }

  private static void wrongNumbers() {
    says(PARTS, "2 a NUMBER that isn't one of those told (above 9999; GIVES 1 .. 9, DINERS 0 .. 5, SPOONS 0 .. 7, DINNERS 1 .. 60).");
    numbersOf("fades ", ";", 0, 9999);
    numbersOf("felt 1+(", ");", 0, 9999);
    numbersOf("diner ", ";", 1, 9);
    numbersOf("card ", " at 0;", 0, 5);
    numbersOf("card 5 at ", ";", 0, 7);
    numbersOf("eat ", " with 0;", 0, 5);
    numbersOf("eat 5 with ", ";", 0, 7);
    numbersOf("smith ", ";", 0, 7);
    numbersOf("polish ", ";", 0, 7);
    numbersOf("day ", ";", 1, 60);
  }

  /** A clause with a number in its midst: the least and the most that may be there, and those beyond. */
  private static void numbersOf(String ahead, String behind, int least, int most) {
    isGood(ahead + least + behind);
    isGood(ahead + most + behind);
    faultIs(ahead + (most + 1) + behind, 2, ahead.length());
    if (least > 0) faultIs(ahead + (least - 1) + behind, 2, ahead.length());
    for (String much : new String[] {"10000", "65536", "2147483648", "4294967297", "18446744073709551617", times("9", 200)})
      faultIs(ahead + much + behind, 2, ahead.length());
  }

  private static void tooDeep() {
    says(PARTS, "3 the 9th of ( not gives top if and - (of one ONE) that are open around one another (at it).");
    for (String one : new String[] {"(", "-", "gives ", "top "}) {
      String close = one.equals("(") ? ")" : "";
      isGood("felt " + times(one, 8) + "1" + times(close, 8) + ";");
      faultIs("felt " + times(one, 9) + "1" + times(close, 9) + ";", 3, 5 + 8 * one.length());
      // the others as the 9th, behind eight of this one
      for (String ninth : new String[] {"(", "-", "gives ", "top ", "if "}) faultIs("felt " + times(one, 8) + ninth, 3, 5 + 8 * one.length());
    }
    isGood("felt if " + times("not ", 7) + "1=1 then 1 else 2 end;");
    faultIs("felt if " + times("not ", 8) + "1=1 then 1 else 2 end;", 3, 8 + 7 * 4);
    for (String ninth : new String[] {"(", "-", "gives ", "top ", "if "}) faultIs("felt if " + times("not ", 7) + ninth, 3, 8 + 7 * 4);
    String nested = times("if 1<2 then ", 8) + "1" + times(" else 2 end", 8);
    isGood("felt " + nested + ";");
    faultIs("felt " + times("if 1<2 then ", 9), 3, 5 + 8 * 12);
    faultIs("felt if 1<2 then 1 else " + times("(", 8), 3, 24 + 7);
    // what is closed counts no more
    isGood("felt " + times("((((((((1))))))))+", 3) + "1;");
    isGood("felt --------1+--------1-1;");
    isGood("felt 1" + times("-1", 20) + ";");
    isGood("felt gives gives gives gives top top top top 1*gives 1;");
    isGood("felt if " + times("not ", 7) + "1=1 and " + times("not ", 7) + "1=1 or (1)=1 then (((((((1))))))) else -------1 end+(1);");
    isGood("fades ((((((((1))))))));felt ((((((((1))))))));");
  }

  private static void lawAgain() {
    says(PARTS, "4 fades, felt for the second time (at it).");
    faultIs("fades 1;felt 1; fades", 4, 16);
    faultIs("fades 1;felt 1;\nfelt 1;", 4, 16);
    isGood("fades 1;felt 1;smith 0;");
  }

  private static void strangeName() {
    says(PARTS, "5 a NAME that isn't of that CLAUSE (at it).");
    isGood("fades day+spoon+mouth+strong+deep+layers;");
    isGood("felt day+spoon+mouth+strong+deep+diner+feels;");
    faultIs("fades day+diner;", 5, 10);
    faultIs("fades day+ feels;", 5, 11);
    faultIs("felt day+layers;", 5, 9);
    faultIs("fades 1;felt if 1<layers then 1 else 2 end;", 5, 18);
    faultIs("felt 1;fades gives diner;", 5, 19);
  }

  private static void tooManyClauses() {
    says(PARTS, "6 the 25th CLAUSE (at its first TOKEN).");
    isGood(times("day 1;", 24));
    faultIs(times("day 1;", 24) + "\n day 61;", 6, 146);
    faultIs(times("day 1;", 24) + "felt", 6, 144);
    faultIs(times("day 1;", 23) + "felt 1;fades 1;", 6, 145);
  }

  private static void textRules() {
    says(PARTS, "THE TEXT (told; at first none) rules.");
    SpoonSet x = eatsWith(withDiners(4, 4), 0, 0);
    due("about(2)", x.about(2), NONE);
    read(x, "fades 5;felt 7;");
    due("a text that isn't told doesn't rule", x.about(2), NONE);
    due("fades", x.layer(0, 0, 2), 1);
    due("felt", x.tastes(1, 0), 0);
    x.by(0);
    due("fades", x.layer(0, 0, 2), 5);
    due("felt", x.tastes(1, 0), 7);
    x.by(NONE);
    due("fades", x.layer(0, 0, 2), 1);
    for (int t = 1; t <= 3; t++) read(x, "fades 6;felt 8;");
    due("four texts, none of which rules", x.layer(0, 0, 2), 1);
    due("felt", x.tastes(1, 0), 0);
    x.by(3);
    due("the last rules", x.layer(0, 0, 2), 6);
  }

  private static void fadesIsHeld() {
    says(PARTS, "fades: 0 at least, 9 at most; without: 1.");
    int[][] fades = {{-9999, 0}, {-1, 0}, {0, 0}, {1, 1}, {8, 8}, {9, 9}, {10, 9}, {9999, 9}};
    for (int[] f : fades) {
      SpoonSet law = eatsWith(ruledBy("fades 0+" + (f[0] < 0 ? "-" + -f[0] : "" + f[0]) + ";", 5), 0, 0, 0, 0, 0);
      due("fades " + f[0], law.layer(0, 0, 2), f[1]);
      law.day(1);
      due("20 less that", law.layer(0, 0, 1), 20 - f[1]);
    }
    SpoonSet without = eatsWith(ruledBy("felt 5;", 5), 0, 0);
    due("a text without", without.layer(0, 0, 2), 1);
    without.day(1);
    due("5 less 1", without.layer(0, 0, 1), 4);
    due("no text", eatsWith(withDiners(5), 0, 0).layer(0, 0, 2), 1);
  }

  private static void feltIsHeld() {
    says(PARTS, "felt: -99 at least, 99 at most; without: what it FEELS times how STRONG by one more than deep (cut).");
    int[][] felt = {{-9999, -99}, {-100, -99}, {-99, -99}, {-98, -98}, {0, 0}, {98, 98}, {99, 99}, {100, 99}, {9999, 99}};
    for (int[] f : felt) {
      SpoonSet law = eatsWith(ruledBy("felt 0+" + (f[0] < 0 ? "-" + -f[0] : "" + f[0]) + ";", 5, 5, 5), 0, 0);
      due("felt " + f[0], law.tastes(1, 0), f[1]);
      eatsWith(law, 0, 1);
      due("of each layer, not of all", law.tastes(2, 0), 2 * f[1]);
    }
    for (int sign : new int[] {1, -1}) {
      int[] cut = {45, 22, 15, 11, 9};
      for (int deep = 0; deep < 5; deep++) due("45 by " + (deep + 1), under(sign, deep).tastes(2, 0), sign * cut[deep]);
      SpoonSet eleven = withDiners(1, 1);
      for (int i = 1; i <= 13; i++) {
        eleven.eat(0, 0);
        eleven.feel(1, 0, 9 * sign);
        due("9 times " + i, eleven.tastes(1, 0), sign * Math.min(99, 9 * i));
      }
    }
  }

  private static void playing() {
    says(PARTS, "PLAYED by a TEXT: its CLAUSES but laws, in their order, as by hand; one that can't be ends it (of so many DINNERS those that can pass do): its number among all CLAUSES (from 0); what was done stays.");
    playsTill("smith 0;diner 1;", 0, 0);
    playsTill("polish 7;diner 1;", 0, 0);
    playsTill("eat 0 with 0;diner 1;", 0, 0);
    playsTill("card 0 at 0;diner 1;", 0, 0);
    playsTill("diner 1;card 1 at 0;diner 1;", 1, 1);
    playsTill("felt 1;diner 1;fades 1;smith 0;diner 1;", 3, 1);
    playsTill(times("diner 9;", 7), 6, 6);
    playsTill(times("diner 9;", 6) + "felt 1;", NONE, 6);
    playsTill("felt 1;fades 1;", NONE, 0);
    playsTill("", NONE, 0);
    playsTill("diner 1;eat 0 with 7;polish 7;smith 7;day 60;", NONE, 1);
    SpoonSet card = new SpoonSet();
    read(card, "diner 1;card 0 at 7;");
    card.played(0);
    due("a card", card.of(0, 1), 7);
    due("nobody has eaten", card.is(3), 255);
    SpoonSet late = pass(withDiners(9), 9990);
    read(late, "eat 0 with 0;day 9;diner 1;day 1;diner 2;");
    due("played(0)", late.played(0), 3);
    due("is(0)", late.is(0), 9999);
    due("about(0)", late.about(0), 2);
    due("steps", late.about(3), 30);
    late.undo();
    due("the last dinner is taken back", late.is(0), 9998);
    read(late, "day 60;diner 3;");
    due("played(1)", late.played(1), 0);
    due("the one that can pass does", late.is(0), 9999);
    due("about(0)", late.about(0), 2);
    due("played(1)", late.played(1), 0);
    due("none can", late.is(0), 9999);
  }

  /** Diner 0's layer, 5 strong, under so many of those of whom diner 2 feels nothing; of 0 it feels 9 or -9. */
  private static SpoonSet under(int sign, int deep) {
    SpoonSet x = withDiners(5, 1, 1, 1);
    eatsWith(x, 0, 0);
    for (int i = 0; i < deep; i++) x.eat(i % 2 == 0 ? 1 : 3, 0);
    x.feel(2, 0, 9 * sign);
    return x;
  }

  private static void playsTill(String text, int want, int diners) {
    SpoonSet x = new SpoonSet();
    read(x, text);
    due("played(0) of \"" + text + "\"", x.played(0), want);
    due("diners then", x.about(0), diners);
  }

  // ---- III

  private static void askingChangesNothing() {
    says(PARTS, "All that follows changes nothing but what is told.");
    SpoonSet asked = eatsWith(withDiners(5, 6, 7), 0, 0, 1, 2);
    asked.card(0, 0);
    asked.clue(0, 2);
    asked.test(1, true);
    asked.said(0, 0, 0);
    int[] ahead = looks(asked);
    asked.foretold(60, 0);
    asked.lasts(0, 0);
    asked.best(true);
    asked.best(false);
    asked.laid(0);
    asked.layings();
    asked.tastes(0, 0);
    asked.rid(0, 0);
    asked.alone(0);
    asked.strongest(0);
    asked.thin(5);
    asked.ask();
    asked.link(0, 1);
    asked.surest();
    asked.pick(255);
    asked.meet(0, 1);
    same("all is as it was", ahead, looks(asked));
  }

  private static void foretelling() {
    says(PARTS, "FORETOLD behind n DINNERS (1 .. 60; those that can pass), nothing else being done.");
    SpoonSet come = eatsWith(withDiners(9, 1), 0, 0);
    polishes(come, 0, 4);
    due("foretold(1, 0)", come.foretold(1, 0), 98);
    due("foretold(60, 0)", come.foretold(60, 0), 39);
    each("foretold(., 0)", n -> come.foretold(n, 0), NONE, 0, 61);
    come.card(1, 2);
    int strong = come.foretold(60, 2);
    come.day(60);
    due("so it comes", come.is(4) - come.layer(0, 0, 1), strong);
    SpoonSet late = eatsWith(pass(withDiners(9), 9998), 0, 0);
    due("one can pass", late.foretold(60, 0), 8);
    due("foretold(1, 0)", late.foretold(1, 0), 8);
    late.day(1);
    due("none can pass", late.foretold(60, 0), 8);
  }

  private static SpoonSet bothWouldHaveSpoon4() {
    SpoonSet x = eatsWith(withDiners(2, 3, 3), 4, 0);
    x.feel(1, 0, 5);
    x.feel(2, 0, 5);
    return x;
  }

  private static void layings() {
    says(PARTS, "A LAYING: each DINER a SPOON of its own; FELT: TASTES of all together. (Without DINERS one LAYING, 0.)");
    SpoonSet none = new SpoonSet();
    due("best(false)", none.best(false), 0);
    due("best(true)", none.best(true), 0);
    due("layings()", none.layings(), 1);
    int[] ways = {8, 56, 336, 1680, 6720, 20160};
    for (int d = 0; d < 6; d++) {
      none.diner(1);
      due("layings() of " + (d + 1), none.layings(), ways[d]);
    }
    SpoonSet both = bothWouldHaveSpoon4();
    due("one spoon isn't two diners'", both.best(false), 10);
  }

  private static void bestLaying() {
    says(PARTS, "THE BEST LAYING: most; of like ones the lowest (by DINERS from 0 on); how many LAYINGS are as good; the worst one.");
    SpoonSet both = bothWouldHaveSpoon4();
    due("laid(0)", both.laid(0), 0);
    due("laid(1)", both.laid(1), 1);
    due("laid(2)", both.laid(2), 4);
    // 4 to diner 1 or to diner 2, 7 * 6 for the two others
    due("layings()", both.layings(), 84);
    due("best(true)", both.best(true), 0);
    SpoonSet like = eatsWith(eatsWith(withDiners(2, 3), 7, 0), 3, 0);
    like.feel(1, 0, -5);
    due("best(false)", like.best(false), 0);
    due("laid(0)", like.laid(0), 0);
    due("laid(1)", like.laid(1), 1);
    due("layings(), 6 spoons to 1 and 7 to 0", like.layings(), 42);
    due("best(true)", like.best(true), -10);
    SpoonSet mouths = eatsWith(withDiners(2, 3), 0, 0);
    mouths.feel(1, 0, 9);
    due("the lowest spoon isn't the best", mouths.laid(0), 1);
    due("laid(1)", mouths.laid(1), 0);
    due("layings()", mouths.layings(), 7);
    SpoonSet last = eatsWith(withDiners(2, 3), 7, 0);
    last.feel(1, 0, 9);
    due("the last spoon", last.laid(1), 7);
    SpoonSet fewer = eatsWith(withDiners(2, 3), 4, 0, 1);
    fewer.feel(0, 1, 3);
    fewer.image();
    fewer.diner(1);
    fewer.feel(2, 0, 9);
    fewer.feel(2, 1, 9);
    due("with a third, who takes it", fewer.best(false), 27 + 9);
    fewer.back();
    due("without the third", fewer.best(false), 9);
    due("the worst without it", fewer.best(true), 0);
    SpoonSet lots = ruledBy("felt if spoon=0 then 99 else -99 end;", 1, 1, 1, 1, 1, 1);
    for (int s = 0; s < 8; s++) eatsWith(lots, s, 0, 1, 2, 3, 4);
    // diner 5 feels of 5 layers, each of the others of 4: 495 and -396 each; spoon 5 is laid to it else: 396 - 4 * 396 - 495
    due("best(false)", lots.best(false), 495 - 5 * 396);
    due("laid(5)", lots.laid(5), 0);
    due("best(true)", lots.best(true), -495 - 5 * 396);
  }

  private static void ridding() {
    says(PARTS, "TO BE RID of a mouth: how often THE SMITH must come to a SPOON till no LAYER is that mouth's (0: none is).");
    SpoonSet x = eatsWith(withDiners(1, 2, 3), 0, 0, 1, 0, 1, 0);
    due("its on top of 5", x.rid(0, 0), 5);
    due("its under the top", x.rid(0, 1), 4);
    due("none of its", x.rid(0, 2), 0);
    due("no layer at all", x.rid(1, 0), 0);
    eatsWith(x, 1, 1, 0, 0);
    due("its lowest alone", x.rid(1, 1), 1);
  }

  private static void alone() {
    says(PARTS, "ALONE: SPOONS that have LAYERS of one mouth and no other.");
    SpoonSet alone = withDiners(1, 2);
    due("no layers anywhere", alone.alone(0), 0);
    for (int s = 0; s < 8; s++) alone.eat(0, s);
    due("all", alone.alone(0), 255);
    eatsWith(alone, 0, 1);
    eatsWith(alone, 7, 1, 0);
    due("alone(0)", alone.alone(0), 126);
    due("alone(1)", alone.alone(1), 0);
  }

  private static void strongest() {
    says(PARTS, "STRONGEST: the SPOON whose LAYERS of a mouth are so together; of like ones the lowest; none.");
    SpoonSet strong = withDiners(4, 9, 1);
    due("none", strong.strongest(0), NONE);
    eatsWith(strong, 7, 0);
    due("the last", strong.strongest(0), 7);
    eatsWith(strong, 5, 0);
    due("of like ones", strong.strongest(0), 5);
    eatsWith(strong, 7, 1, 0);
    due("two layers together", strong.strongest(0), 7);
    eatsWith(strong, 5, 1, 1);
    due("others' aren't counted", strong.strongest(0), 7);
    due("none of its", strong.strongest(2), NONE);
    eatsWith(strong, 0, 2);
    due("1 strong, on the first", strong.strongest(2), 0);
  }

  private static void thin() {
    says(PARTS, "THIN: how many LAYERS are so STRONG or less.");
    SpoonSet thin = eatsWith(withDiners(1, 9), 0, 0, 1);
    due("thin(0)", thin.thin(0), 0);
    due("thin(1)", thin.thin(1), 1);
    due("thin(8)", thin.thin(8), 1);
    due("thin(9)", thin.thin(9), 2);
    polishes(thin, 0, 4);
    due("thin(98)", thin.thin(98), 1);
    due("thin(99)", thin.thin(99), 2);
    for (int s = 0; s < 8; s++) thin.eat(0, s);
    due("on all spoons", thin.thin(1), 9);
  }

  private static void lasting() {
    says(PARTS, "LASTS: behind how many DINNERS (beyond 9999, too), if nobody eats and all SPOONS fade, a LAYER is gone.");
    SpoonSet lasts = eatsWith(withDiners(3, 1, 9), 4, 0, 1, 2);
    lasts.card(0, 4);
    due("9 on top", lasts.lasts(4, 0), 9);
    due("1 under it", lasts.lasts(4, 1), 1);
    due("3 lowest, nobody eats", lasts.lasts(4, 2), 3);
    SpoonSet others = eatsWith(eatsWith(ruledBy("fades if spoon=6 then 1 else if top 6=0 then 9 else 0 end end;", 3, 9), 6, 0), 2, 1);
    due("spoon 6 fades, too; 2 is ahead of it", others.lasts(2, 0), 4);
    SpoonSet ends = eatsWith(eatsWith(ruledBy("fades if spoon=7 then 1 else if top 7=0 then 9 else 0 end end;", 3, 9), 7, 0), 0, 1);
    due("the last spoon", ends.lasts(7, 0), 3);
    due("the first spoon, the last being gone", ends.lasts(0, 0), 4);
    SpoonSet late = eatsWith(pass(withDiners(9), 9999), 0, 0);
    due("at 9999", late.lasts(0, 0), 9);
    late.by(read(late, "fades day-9999;"));
    // 0, 1, 2, 3 and 4 are 10 together
    due("days beyond 9999", late.lasts(0, 0), 5);
  }

  /** Of spoon 3 the layers are 0's, 1's, 0's, 1's and 0's, of spoon 5 there is one of 0; and these clues, each of how deep and whose. */
  private static SpoonSet withClues(int... clues) {
    SpoonSet x = eatsWith(eatsWith(withDiners(1, 2), 3, 0, 1, 0, 1, 0), 5, 0);
    for (int i = 0; i < clues.length; i += 2) x.clue(clues[i], clues[i + 1]);
    return x;
  }

  private static void clues() {
    says(PARTS, "CLUES (6 at most; told: so deep from the top the LAYER was a mouth's, or there was none).");
    SpoonSet clues = withClues();
    for (int i = 1; i <= 6; i++) due("clue(0, 0)", clues.clue(0, 0), i);
    due("the 7th", clues.clue(0, 0), -2);
    due("which()", clues.which(), 40);
    clues.clue(NONE, NONE);
    due("the deepest there is", clues.clue(4, 0), 1);
    due("which()", clues.which(), 8);
    clues.clue(NONE, NONE);
    clues.clue(1, NONE);
    due("none so deep", clues.which(), 247);
  }

  private static void which() {
    says(PARTS, "WHICH: SPOONS by which all CLUES are so.");
    due("no clues", withClues().which(), 255);
    due("one", withClues(0, 0).which(), 40);
    due("both", withClues(0, 0, 1, 1).which(), 8);
    due("no spoon", withClues(0, 0, 1, 1, 2, 1).which(), 0);
  }

  private static void whatToAsk() {
    says(PARTS, "WHAT TO ASK: how deep (0 .. 4) one must ask whose mouth is there (or nobody's), so that of those SPOONS the most alike are fewest; of like ones the least deep; none (one SPOON or none fits).");
    due("no spoon fits", withClues(0, 0, 0, 1).ask(), NONE);
    due("one spoon fits", withClues(4, 0).ask(), NONE);
    due("two fit", withClues(0, 0).ask(), 1);
    due("all alike", new SpoonSet().ask(), 0);
    SpoonSet ask = withDiners(1, 2, 3, 4);
    for (int s = 0; s < 8; s++) eatsWith(ask, s, s % 3, 3, 0, 1, 0);
    due("as deep as can be", ask.ask(), 4);
    ask.clue(4, 2);
    due("those alike", ask.which(), 36);
    due("of like ones", ask.ask(), 0);
    SpoonSet six = withDiners(1, 1, 1, 1, 1, 1);
    for (int s = 0; s < 8; s++) eatsWith(six, s, s % 4 + 1, Math.min(s, 5));
    due("5 thrice on top, no mouth thrice under it", six.ask(), 1);
    SpoonSet two = eatsWith(eatsWith(withDiners(1, 2), 0, 0, 1), 1, 1);
    two.clue(0, 1);
    due("two fit", two.which(), 3);
    due("one has nobody so deep", two.ask(), 1);
  }

  private static void linking() {
    says(PARTS, "A LINK: the fewest SPOONS by which two mouths hang together, each one shared by two mouths one behind the other (0 of one and itself); none.");
    SpoonSet link = withDiners(1, 1, 1, 1, 1, 1);
    due("of one and itself, without layers", link.link(5, 5), 0);
    due("none", link.link(0, 5), NONE);
    for (int s = 0; s < 5; s++) eatsWith(link, s, s, s + 1);
    for (int d = 0; d <= 5; d++) {
      due("link(0, " + d + ")", link.link(0, d), d);
      due("link(" + d + ", 5)", link.link(d, 5), 5 - d);
    }
    eatsWith(link, 7, 1, 4);
    due("a shorter way", link.link(0, 5), 3);
    link.smith(4);
    due("a spoon less", link.link(0, 5), NONE);
  }

  private static void tests() {
    says(PARTS, "TESTS (8 at most; told: of some DINERS together whether THE THIEF seems to be among them).");
    SpoonSet x = withDiners(1, 1, 1, 1, 1, 1);
    for (int i = 1; i <= 8; i++) due("test(63, true)", x.test(63, true), i);
    due("the 9th", x.test(63, true), -2);
    due("suspects(0)", x.suspects(0), 63);
    x.test(NONE, false);
    x.test(5, true);
    due("among them", x.suspects(0), 5);
    x.test(1, false);
    due("not among them", x.suspects(0), 4);
  }

  private static void suspects() {
    says(PARTS, "SUSPECTS: DINERS (without TESTS all) each of whom, being THE THIEF, makes at most so many TESTS wrong.");
    SpoonSet none = new SpoonSet();
    due("without diners", none.suspects(8), 0);
    for (int i = 0; i < 4; i++) none.diner(1);
    due("without tests", none.suspects(0), 15);
    for (int i = 0; i < 4; i++) {
      none.test(1, true);
      none.test(3, true);
    }
    due("suspects(0)", none.suspects(0), 1);
    due("suspects(3)", none.suspects(3), 1);
    due("suspects(4)", none.suspects(4), 3);
    due("suspects(7)", none.suspects(7), 3);
    due("suspects(8)", none.suspects(8), 15);
  }

  private static void surest() {
    says(PARTS, "THE SUREST: whom the fewest would be wrong of; of like ones the lowest; none.");
    due("none", new SpoonSet().surest(), NONE);
    due("without tests", withDiners(1, 1).surest(), 0);
    SpoonSet like = withDiners(1, 1, 1);
    like.test(1, false);
    due("of like ones", like.surest(), 1);
    like.test(4, true);
    due("the fewest", like.surest(), 2);
    like.test(NONE, true);
    for (int i = 1; i <= 8; i++) due("of no diner", like.test(0, true), i);
    due("all wrong of all", like.surest(), 0);
    due("suspects(7)", like.suspects(7), 0);
  }

  // ---- IV

  private static void housesAreEight() {
    says(PARTS, "HOUSES 0 .. 7: to which a spoon goes from each (told; at first to itself).");
    SpoonSet x = new SpoonSet();
    for (int h = 0; h < 8; h++) due("goes(" + h + ", 1)", x.goes(h, 1), h);
    due("house(0, 7)", x.house(0, 7), true);
    due("house(7, 0)", x.house(7, 0), true);
    due("goes(0, 1)", x.goes(0, 1), 7);
    due("goes(7, 1)", x.goes(7, 1), 0);
    due("house(0, 0)", x.house(0, 0), true);
    due("goes(0, 1)", x.goes(0, 1), 0);
    each("house(., 0)", h -> bit(x.house(h, 0)), 0, -1, 8);
    each("house(0, .)", h -> bit(x.house(0, h)), 0, -1, 8);
  }

  private static void meeting() {
    says(PARTS, "WHEN TWO that start from two HOUSES are first in one at once (0: one HOUSE); never.");
    SpoonSet chain = new SpoonSet();
    due("one house", chain.meet(7, 7), 0);
    due("never", chain.meet(0, 7), NONE);
    for (int h = 0; h < 7; h++) chain.house(h, h + 1);
    for (int h = 0; h < 8; h++) due("meet(" + h + ", 7)", chain.meet(h, 7), 7 - h);
    due("the farther one", chain.meet(5, 6), 2);
    chain.house(7, 6);
    due("around one another", chain.meet(0, 1), NONE);
    due("meet(5, 7)", chain.meet(5, 7), 1);
    chain.house(7, 0);
    due("all around", chain.meet(0, 4), NONE);
    // rounds of 3 and of 5 houses
    int[] rounds = {1, 2, 0, 4, 5, 6, 7, 3};
    for (int h = 0; h < 8; h++) chain.house(h, rounds[h]);
    due("two rounds", chain.meet(0, 3), NONE);
  }

  private static void coming() {
    says(PARTS, "WHO COMES to a HOUSE: those from which it is come to (itself, too).");
    SpoonSet comes = new SpoonSet();
    for (int h = 0; h < 8; h++) due("comes(" + h + ")", comes.comes(h), 1 << h);
    for (int h = 0; h < 7; h++) comes.house(h, h + 1);
    for (int h = 0; h < 8; h++) due("comes(" + h + ")", comes.comes(h), (2 << h) - 1);
    comes.house(7, 0);
    for (int h = 0; h < 8; h++) due("all around", comes.comes(h), 255);
  }

  private static void values() {
    says(PARTS, "VALUES of SPOONS (told; at first 0): mine to the first, yours to the second hostess.");
    SpoonSet x = new SpoonSet();
    for (int s = 0; s < 8; s++) due("game at first", x.game(1 << s), 0);
    due("all at first", x.game(255), 0);
    x.value(0, 99, 0);
    x.value(7, 0, 99);
    due("mine", x.game(1), 99);
    due("yours isn't", x.game(128), 0);
  }

  private static void game() {
    says(PARTS, "A GAME of a tray of SPOONS: by turns each picks one till none is left; each would have as much more than the other one (each by her own VALUES) as can be: how much more the first gets.");
    SpoonSet x = new SpoonSet();
    due("of no spoon", x.game(0), 0);
    x.value(0, 99, 0);
    x.value(7, 0, 99);
    due("of two", x.game(129), 0);
    x.value(0, 5, 9);
    x.value(7, 6, 1);
    due("what the other one would have counts", x.game(129), 4);
    SpoonSet hers = new SpoonSet();
    for (int s = 0; s < 8; s++) hers.value(s, 0, 99);
    due("hers", hers.game(255), -396);
    due("of 7, three hers", hers.game(127), -297);
    for (int s = 0; s < 8; s++) hers.value(s, 99, 0);
    due("the first's", hers.game(255), 396);
    due("of 7, four the first's", hers.game(127), 396);
  }

  private static void picking() {
    says(PARTS, "A PICK first for it: the lowest.");
    SpoonSet pick = new SpoonSet();
    for (int s = 0; s < 8; s++) due("pick of one", pick.pick(1 << s), s);
    due("all alike", pick.pick(255), 0);
    due("of those on the tray", pick.pick(240), 4);
    pick.value(7, 1, 0);
    due("the last", pick.pick(255), 7);
    pick.value(3, 0, 1);
    due("of like ones", pick.pick(136), 3);
    pick.value(7, 2, 0);
    due("the better one", pick.pick(136), 7);
  }

  private static void whoseLaw() {
    says(PARTS, "WHOSE LAW (told: SAID, 8 at most: a DINER, a SPOON, what it TASTES, -999 .. 999): TEXTS (bits) by whose felt all TASTE so (as now).");
    SpoonSet law = eatsWith(withDiners(1, 2, 3, 4, 5, 6), 7, 0, 1, 2, 3, 4);
    due("no text", law.whose(), 0);
    for (String text : new String[] {"felt 100;", "felt -100;", "felt 0;", "fades 1;"}) read(law, text);
    due("nothing said", law.whose(), 15);
    due("said(5, 7, 495)", law.said(5, 7, 495), 1);
    due("the most that is felt", law.whose(), 1);
    law.said(NONE, 0, 0);
    law.said(5, 7, -495);
    due("the least", law.whose(), 2);
    law.said(NONE, 0, 0);
    law.said(5, 7, 0);
    due("nothing, and without felt", law.whose(), 12);
    law.feel(5, 4, 1);
    due("as now", law.whose(), 4);
    law.said(5, 6, 0);
    due("of a spoon without layers", law.whose(), 4);
    law.said(0, 7, 396);
    due("all, not some", law.whose(), 0);
    due("said(0, 0, 999)", law.said(0, 0, 999), 4);
    due("said(0, 0, -999)", law.said(0, 0, -999), 5);
    each("said(0, 0, .)", t -> law.said(0, 0, t), -2, 1000, -1000);
    for (int i = 6; i <= 8; i++) due("said(5, 7, 0)", law.said(5, 7, 0), i);
    due("the 9th", law.said(5, 7, 0), -2);
    law.said(NONE, 0, 0);
    due("nothing said any more", law.whose(), 15);
  }

  private static void gladdest() {
    says(PARTS, "GLADDEST: the SPOON whose LAYERS are STRONGEST together; of like ones the lowest; none (all without LAYERS).");
    SpoonSet x = withDiners(1, 2, 3);
    due("none", x.gladdest(), NONE);
    eatsWith(x, 7, 2);
    due("the last", x.gladdest(), 7);
    eatsWith(x, 4, 0, 1);
    due("of like ones, together", x.gladdest(), 4);
    x.day(1);
    x.day(2);
    due("none again", x.gladdest(), NONE);
    eatsWith(x, 0, 0);
    due("1 strong, on the first", x.gladdest(), 0);
  }

  private static void loved() {
    says(PARTS, "LOVED by a DINER: of whom it FEELS most (above 0); of like ones the lowest; none.");
    SpoonSet loved = withDiners(1, 1, 1, 1, 1, 1);
    due("none at first", loved.loved(0), NONE);
    for (int m = 1; m < 6; m++) loved.feel(0, m, -1);
    due("none above 0", loved.loved(0), NONE);
    loved.feel(0, 5, 1);
    due("1 is above 0", loved.loved(0), 5);
    loved.feel(0, 3, 1);
    due("of like ones", loved.loved(0), 3);
    loved.feel(0, 4, 2);
    due("most", loved.loved(0), 4);
    due("not of whom it is felt", loved.loved(4), NONE);
    due("the last diner loves none", loved.loved(5), NONE);
    loved.feel(2, 0, 9);
    due("what another one feels isn't its own", loved.loved(1), NONE);
  }

  private static void feuding() {
    says(PARTS, "THE FEUD: two who FEEL least of one another, what either FEELS of the other together (below 0); of like ones the lowest one, then the lowest other.");
    feudIs(withDiners(1), NONE, NONE);
    SpoonSet feud = withDiners(1, 1, 1, 1, 1, 1);
    feudIs(feud, NONE, NONE);
    feud.feel(5, 4, -9);
    feud.feel(4, 5, 9);
    feudIs(feud, NONE, NONE);
    feud.feel(4, 5, 8);
    feudIs(feud, 4, 5);
    feud.feel(3, 5, -1);
    feudIs(feud, 3, 5);
    feud.feel(5, 1, -1);
    feudIs(feud, 1, 5);
    feud.feel(2, 1, -1);
    feudIs(feud, 1, 2);
    feud.feel(4, 5, 7);
    feudIs(feud, 4, 5);
    feud.feel(4, 5, -9);
    feud.feel(0, 1, -9);
    feud.feel(1, 0, -8);
    feudIs(feud, 4, 5);
    feud.feel(1, 0, -9);
    feudIs(feud, 0, 1);
  }

  private static void eldest() {
    says(PARTS, "ELDEST: whose LAYER is the lowest of most SPOONS; likewise; none.");
    SpoonSet eldest = withDiners(1, 1, 1, 1, 1, 1);
    due("none", eldest.eldest(), NONE);
    eatsWith(eldest, 3, 5, 0);
    due("the last diner", eldest.eldest(), 5);
    eatsWith(eldest, 4, 4, 0);
    due("of like ones", eldest.eldest(), 4);
    eatsWith(eldest, 5, 5, 0, 1, 2, 3);
    due("of most spoons", eldest.eldest(), 5);
    eatsWith(eldest, 5, 4);
    due("0 is the lowest of one then", eldest.eldest(), 0);
    SpoonSet ends = eatsWith(withDiners(1, 1), 0, 1);
    due("on the first spoon alone", ends.eldest(), 1);
    eatsWith(ends, 4, 0);
    due("of like ones", ends.eldest(), 0);
    eatsWith(ends, 7, 1);
    due("on the first and the last", ends.eldest(), 1);
  }

  private static void byTheBook() {
    says(PARTS, "BY THE BOOK: how many lines there are of a mouth.");
    SpoonSet book = withDiners(1, 2, 3);
    due("none", book.ledger(0), 0);
    eatsWith(book, 0, 0, 1);
    book.smith(0);
    due("ledger(0)", book.ledger(0), 1);
    due("whose is on top behind the smith", book.ledger(1), 2);
    book.smith(0);
    due("nobody's is nobody's", book.ledger(0) + book.ledger(1) + book.ledger(2), 3);
    for (int i = 0; i < 30; i++) book.eat(2, 4);
    due("the latest 25 alone", book.ledger(2), 25);
    due("the others' are gone", book.ledger(0) + book.ledger(1), 0);
  }

  // ---- V

  /** Six diners who give 1 to 6, spoons with a layer of 2 under one of 0. */
  private static SpoonSet forYears() {
    SpoonSet x = withDiners(1, 2, 3, 4, 5, 6);
    for (int s = 0; s < 8; s++) eatsWith(x, s, 2, 0);
    return x;
  }

  private static void seedsAndTimes() {
    says(PARTS, "X is SEED (0 .. 9999) * 2 + 461; n times (1 .. 40): x is X, X anew (as in a draw):");
    for (int seed : new int[] {0, 1, 9998, 9999}) {
      SpoonSet x = new SpoonSet();
      x.years(seed, 1);
      due("is(1) by " + seed, x.is(1), nextX(seed * 2 + 461));
      x.years(seed, 40);
      int last = seed * 2 + 461;
      for (int i = 0; i < 40; i++) last = nextX(last);
      due("is(1) by " + seed, x.is(1), last);
    }
  }

  private static void drawsOfYears() {
    says(PARTS, "x mod 6: 0, 1 DINER x / 6 mod 6 has EATEN with SPOON x mod 8; 2 THE SMITH comes to SPOON x / 6 mod 8, if x mod 4 is 0; 3 it is POLISHED, if x mod 4 is 1 (each if it can be; else nothing); 4, 5 a DINNER (if it can pass).");
    int[] seen = new int[6];
    for (int seed = 0; seed < 300; seed++) {
      int first = seed * 2 + 461;
      seen[first % 6]++;
      if (seed < 60) drawIs(forYears(), seed, first, 1);
      // no first x is even: those come second
      int second = nextX(first);
      if (second % 2 == 0) {
        seen[second % 6]++;
        drawIs(forYears(), seed, second, 2);
      }
    }
    for (int kind = 0; kind < 6; kind++) due("draws of " + kind + " were seen", seen[kind] > 0, true);
    SpoonSet nobody = new SpoonSet();
    for (int seed = 0; seed < 40; seed++) nobody.years(seed, 40);
    due("without diners nobody eats", nobody.is(3), 255);
    due("nothing is written", nobody.book(NONE, 0), 0);
    SpoonSet late = pass(withDiners(1, 1, 1), 9998);
    due("years(0, 1) is the last dinner", late.years(0, 1), 9999);
    due("years(0, 40), none can pass", late.years(0, 40), 9999);
    due("years(9999, 40), none can pass", late.years(9999, 40), 9999);
    due("the dinners' draws aren't made", late.is(1), fortiethOf(9999));
  }

  private static void yearsAreOneStep() {
    says(PARTS, "It is one STEP: DINNER.");
    SpoonSet one = eatsWith(withDiners(1, 2, 3, 4, 5, 6), 0, 0);
    int[] ahead = looks(one);
    due("years(7, 40)", one.years(7, 40), one.is(0));
    due("about(3)", one.about(3), 2);
    due("undo()", one.undo(), 1);
    same("taken back", ahead, looks(one));
    SpoonSet idle = new SpoonSet();
    // 463 is 1 by 6: there is no diner that could eat
    due("years(1, 1), in which nothing is done", idle.years(1, 1), 0);
    due("about(3)", idle.about(3), 1);
  }

  private static void images() {
    says(PARTS, "AN IMAGE: all as it is, but the tape and the latest FAULT. BACK: all is so again.");
    SpoonSet x = forImage();
    SpoonSet twin = forImage();
    x.image();
    changeAll(x);
    due("about(1)", x.about(1), 3);
    x.back();
    same("all is so again", looks(twin), looks(x));
    for (int i = 27; i >= 0; i--) {
      due("undo() behind back()", x.undo(), i);
      twin.undo();
      due("taken back alike, MOOD", x.is(2), twin.is(2));
      due("taken back alike, how strong all is", x.is(4), twin.is(4));
    }
    due("undo()", x.undo(), NONE);
    due("as ahead of the 28 steps that stood of 34", x.book(NONE, 0), 6);
    read(x, "smith 8;");
    onTape(x, "smith");
    x.back();
    due("the latest fault stays", x.fault(0), 2);
    due("and its place", x.fault(1), 6);
    due("the tape stays", x.about(7), 5);
    due("about(1)", x.about(1), 1);
  }

  /** An object with something of each kind, whose steps have gone around. */
  private static SpoonSet forImage() {
    SpoonSet x = eatsWith(withDiners(3, 4, 5), 0, 0, 1, 2);
    for (int i = 0; i < 33; i++) x.eat(i % 3, i % 8);
    x.undo();
    x.undo();
    x.feel(0, 1, 5);
    x.card(1, 4);
    x.by(read(x, "fades 2;"));
    x.clue(0, 1);
    x.test(3, true);
    x.said(0, 0, 7);
    for (int h = 0; h < 8; h++) x.house(h, 7 - h);
    for (int s = 0; s < 8; s++) x.value(s, 5 + s, 40 - 3 * s);
    return x;
  }

  private static void changeAll(SpoonSet x) {
    x.diner(6);
    x.feel(0, 1, -5);
    x.card(1, NONE);
    x.by(read(x, "fades 3;"));
    read(x, "fades 3;felt 1;");
    for (int i = 0; i < 44; i++) x.polish(i % 8);
    x.years(3, 40);
    x.clue(NONE, 0);
    x.clue(1, 0);
    x.test(NONE, true);
    x.test(4, true);
    x.said(NONE, 0, 0);
    x.said(1, 1, 3);
    for (int h = 0; h < 8; h++) x.house(h, h);
    for (int s = 0; s < 8; s++) x.value(s, 50, 60);
  }

  private static void constant() {
    says(PARTS, "The constants: `NONE = -1`: None.");
    due("NONE", SpoonSet.NONE, -1);
  }

  private static int fortiethOf(int seed) {
    int x = seed * 2 + 461;
    for (int i = 0; i < 40; i++) x = nextX(x);
    return x;
  }

  /** What the n-th draw of a seed does, being x; n is 1 or 2. */
  private static void drawIs(SpoonSet set, int seed, int x, int n) {
    String what = " by x " + x;
    SpoonSet ahead = forYears();
    if (n == 2) ahead.years(seed, 1);
    set.years(seed, n);
    int spoon = x / 6 % 8;
    int strong = set.is(4) - ahead.is(4);
    int dinners = set.is(0) - ahead.is(0);
    int lines = set.book(NONE, 0) - ahead.book(NONE, 0);
    int last = set.book(NONE, 0) - 1;
    switch (x % 6) {
      case 0: case 1:
        due("lines" + what, lines, 1);
        due("eaten" + what, set.book(last, 1), 0);
        due("whose" + what, set.book(last, 3), x / 6 % 6);
        due("the spoon" + what, set.book(last, 2), x % 8);
        due("strong" + what, strong, x / 6 % 6 + 1);
        break;
      case 2:
        boolean comes = x % 4 == 0 && ahead.layers(spoon) > 0;
        due("the smith" + what, lines, bit(comes));
        if (comes) due("the smith's line" + what, set.book(last, 1) * 10 + set.book(last, 2), 10 + spoon);
        due("a layer less" + what, set.layers(spoon), ahead.layers(spoon) - bit(comes));
        break;
      case 3:
        boolean polished = x % 4 == 1;
        due("polished" + what, lines, bit(polished));
        if (polished) due("the line" + what, set.book(last, 1) * 10 + set.book(last, 2), 20 + spoon);
        due("twice as strong" + what, strong, polished ? 1 : 0);
        break;
      default:
        due("a dinner" + what, dinners, 1);
        due("no line" + what, lines, 0);
        break;
    }
    if (x % 6 < 4) due("no dinner" + what, dinners, 0);
  }
}
