import java.io.IOException;

/** The sentences of the promises 1 to 58 that name a boundary case, each with a test of its own. */
public final class SpoonSetPromiseBounds extends BoundTest {
  public static void main(String[] args) throws IOException {
    readDocument();
    newObject();
    diner();
    feel();
    card();
    feed();
    feedBeyond300();
    end();
    endCuts();
    text();
    textRefused();
    fault();
    by();
    eat();
    smith();
    polish();
    day();
    played();
    years();
    undo();
    of();
    feels();
    layers();
    layer();
    is();
    book();
    foretold();
    tastes();
    laid();
    rid();
    aloneForOthers();
    strongestForOthers();
    thinForOthers();
    lasts();
    clue();
    ask();
    where();
    meets();
    link();
    test();
    suspectsForOthers();
    surestOfNone();
    said();
    house();
    goes();
    meet();
    comes();
    value();
    gameForOthers();
    pick();
    gladdestOfNone();
    lovedForOthers();
    feudOfNone();
    eldestOfNone();
    ledger();
    image();
    back();
    about();
    end(1, PROMISES);
  }

  private static void newObject() {
    says(1, "Eight new spoons; THE IMAGE is this.");
    SpoonSet x = eatsWith(withDiners(4, 4), 7, 0);
    x.feel(0, 1, 2);
    x.card(0, 1);
    x.by(read(x, "fades 3;"));
    x.day(1);
    x.clue(0, 0);
    x.test(1, true);
    x.said(0, 0, 0);
    x.house(0, 1);
    x.value(0, 1, 1);
    x.years(1, 40);
    due("back()", x.back(), 0);
    SpoonSet fresh = new SpoonSet();
    read(fresh, "");
    fresh.back();
    same("as new", looks(fresh), looks(x));
    due("spoons without layers", x.is(3), 255);
    due("undo()", x.undo(), NONE);
  }

  private static void diner() {
    says(2, "NONE for others (1 .. 9), or if there are 6.");
    SpoonSet diner = new SpoonSet();
    each("diner", diner::diner, NONE, 0, -1, 10, LOW, HIGH);
    due("none is there", diner.about(0), 0);
    for (int d = 0; d < 6; d++) due("diner", diner.diner(d % 2 == 0 ? 1 : 9), d);
    each("the 7th", diner::diner, NONE, 1, 5, 9);
    due("six", diner.about(0), 6);
  }

  private static void feel() {
    says(3, "False for others (unlike ones; -9 .. 9).");
    SpoonSet feel = withDiners(1, 1, 1);
    feel.feel(0, 1, 3);
    int[] ahead = looks(feel);
    each("feel(., 1, 2)", d -> bit(feel.feel(d, 1, 2)), 0, -1, 3, 6, LOW, HIGH);
    each("feel(0, ., 2)", m -> bit(feel.feel(0, m, 2)), 0, -1, 3, 6, LOW, HIGH);
    each("feel(., ., 2) of itself", d -> bit(feel.feel(d, d, 2)), 0, 0, 1, 2);
    each("feel(0, 1, .)", f -> bit(feel.feel(0, 1, f)), 0, -10, 10, LOW, HIGH);
    same("nothing is told", ahead, looks(feel));
    each("feel(0, 1, .)", f -> bit(feel.feel(0, 1, f)), 1, -9, 0, 9);
  }

  private static void card() {
    says(4, "False for others (0 .. 7; NONE: no CARD).");
    SpoonSet card = withDiners(1, 1, 1);
    card.card(0, 3);
    int[] ahead = looks(card);
    each("card(., 0)", d -> bit(card.card(d, 0)), 0, -1, 3, 6, LOW, HIGH);
    each("card(0, .)", s -> bit(card.card(0, s)), 0, -2, 8, LOW, HIGH);
    each("card(3, .)", s -> bit(card.card(3, s)), 0, 0, NONE);
    same("nothing is told", ahead, looks(card));
    each("card(0, .)", s -> bit(card.card(0, s)), 1, 0, 7, NONE);
    due("no card", card.of(0, 1), NONE);
    card.day(5);
    due("and no draw", card.is(1), 461);
  }

  private static void feed() {
    says(5, "Twenty bytes come behind the tape, the highest of a first: how many it has.");
    SpoonSet feed = new SpoonSet();
    due("feed \"diner 1;diner 2;    \"", feed.feed(0x64696e65, 0x7220313b, 0x64696e65, 0x7220323b, 0x20202020), 20);
    due("feed \"diner 3;        felt\"", feed.feed(0x64696e65, 0x7220333b, 0x20202020, 0x20202020, 0x66656c74), 40);
    feed.end(36);
    due("text()", feed.text(), 0);
    feed.played(0);
    for (int d = 0; d < 3; d++) due("of(" + d + ", 0)", feed.of(d, 0), d + 1);
    due("a number below 0", feed.feed(0x20202020, 0x20202020, 0x20202020, 0x20202020, 0x202020ff), 20);
    feed.text();
    due("the lowest byte is the last", feed.fault(1), 19);
    feed.feed(0x80202020, 0, 0, 0, 0);
    feed.text();
    due("the highest byte is the first", feed.fault(1), 0);
  }

  private static void feedBeyond300() {
    says(5, "NONE, and none come, if there would be more than 300.");
    SpoonSet full = new SpoonSet();
    for (int i = 1; i <= 15; i++) due("feed", full.feed(0x20202020, 0x20202020, 0x20202020, 0x20202020, 0x20202020), 20 * i);
    due("to 320", full.feed(-1, -1, -1, -1, -1), NONE);
    due("about(7)", full.about(7), 300);
    full.end(281);
    due("to 301", full.feed(-1, -1, -1, -1, -1), NONE);
    due("about(7)", full.about(7), 281);
    due("none came", full.text(), 0);
    for (int i = 1; i <= 15; i++) full.feed(0, 0, 0, 0, 0);
    full.end(280);
    due("to 300", full.feed(0, 0, 0, 0, 0), 300);
  }

  private static void end() {
    says(6, "NONE, and nothing is done, if it has not so many, or n is below 0.");
    SpoonSet end = new SpoonSet();
    each("end of an empty tape", end::end, NONE, 1, -1, LOW, HIGH);
    due("end(0) of an empty tape", end.end(0), 0);
    end.feed(0x736d6974, 0x6820303b, 0, 0, 0);
    each("end of 20", end::end, NONE, 21, 300, -1, LOW, HIGH);
    due("about(7)", end.about(7), 20);
    due("end(20)", end.end(20), 20);
    due("end(8)", end.end(8), 8);
    due("end(9)", end.end(9), NONE);
    due("\"smith 0;\"", end.text(), 0);
  }

  private static void endCuts() {
    says(6, "The tape has its first n bytes alone: n.");
    SpoonSet end = new SpoonSet();
    onTape(end, "smith 0;smith 9;");
    due("end(8)", end.end(8), 8);
    due("the first", end.text(), 0);
    for (String cut : new String[] {"smith 0|1;", "felt if 1<|=1 then 1 else 2 end;", "felt 1|;", "smith|y", "smith 0|;"}) {
      onTape(end, cut.replace("|", ""));
      int length = cut.indexOf('|');
      due("end of " + cut, end.end(length), length);
      due("text() of " + cut, end.text(), NONE);
      due("its fault", end.fault(0), 1);
      due("its place", end.fault(1), length);
    }
    onTape(end, "smith 0;");
    due("end(0)", end.end(0), 0);
    due("of no byte", end.text(), 1);
    due("played(1)", end.played(1), NONE);
  }

  private static void text() {
    says(7, "The tape (empty then) is a TEXT: its number.");
    SpoonSet text = new SpoonSet();
    for (int t = 0; t < 4; t++) {
      due("text()", read(text, "smith 0;"), t);
      due("the tape is empty", text.about(7), 0);
      due("about(1)", text.about(1), t + 1);
    }
  }

  private static void textRefused() {
    says(7, "NONE: it has a FAULT; or (the tape stays) there are 4.");
    SpoonSet text = new SpoonSet();
    for (int t = 0; t < 4; t++) read(text, "smith 0;");
    onTape(text, "smith 9;");
    due("text() of four", text.text(), NONE);
    due("the tape stays", text.about(7), 8);
    due("about(1)", text.about(1), 4);
    due("nothing was read", text.fault(0), 0);
    SpoonSet faulty = new SpoonSet();
    due("with a fault", read(faulty, "smith 9;"), NONE);
    due("the tape is empty", faulty.about(7), 0);
    due("about(1)", faulty.about(1), 0);
    due("by(0)", faulty.by(0), false);
    due("played(0)", faulty.played(0), -2);
    due("the next", read(faulty, "smith 0;"), 0);
    SpoonSet nothing = new SpoonSet();
    read(nothing, "fades 9;felt 5;diner 1;smith 9;");
    due("the next", read(nothing, "diner 2;diner 3;"), 0);
    due("played(0)", nothing.played(0), NONE);
    due("nothing of the faulty one is played", nothing.about(0), 2);
    due("of(0, 0)", nothing.of(0, 0), 2);
    eatsWith(nothing, 0, 0);
    nothing.feel(1, 0, 4);
    nothing.by(0);
    due("nor rules", nothing.layer(0, 0, 2), 1);
    due("nor is felt", nothing.tastes(1, 0), 8);
    for (int i = 0; i < 4; i++) due("full and faulty", read(nothing, "felt " + times("1+", 146) + "1 ."), NONE);
    due("a full one behind those", read(nothing, "felt " + times("1-", 145) + "1+99;"), 1);
    nothing.by(1);
    due("is felt", nothing.tastes(1, 0), 1 - 145 + 99);
  }

  private static void fault() {
    says(8, "Of the latest text that was read: 0 its FAULT (0 without), 1 its place (NONE without). NONE for others, and ahead of any.");
    SpoonSet fault = new SpoonSet();
    each("fault ahead of any", fault::fault, NONE, 0, 1, 2, -1);
    onTape(fault, "smith 9;");
    each("fault ahead of text()", fault::fault, NONE, 0, 1);
    fault.text();
    due("fault(0)", fault.fault(0), 2);
    due("fault(1)", fault.fault(1), 6);
    each("fault", fault::fault, NONE, -1, 2, LOW, HIGH);
    read(fault, "");
    due("fault(0) without", fault.fault(0), 0);
    due("fault(1) without", fault.fault(1), NONE);
    each("fault", fault::fault, NONE, -1, 2, LOW, HIGH);
    read(fault, "foo");
    due("the latest", fault.fault(0), 1);
    due("at the first byte", fault.fault(1), 0);
  }

  private static void by() {
    says(9, "THE TEXT (NONE: none): true. False for others.");
    SpoonSet by = new SpoonSet();
    due("by(NONE) without texts", by.by(NONE), true);
    each("by", t -> bit(by.by(t)), 0, 0, -2, LOW, HIGH);
    read(by, "");
    read(by, "");
    due("by(1)", by.by(1), true);
    each("by", t -> bit(by.by(t)), 0, 2, 3, 4, -2, LOW, HIGH);
    due("about(2)", by.about(2), 1);
    due("by(NONE)", by.by(NONE), true);
    due("about(2)", by.about(2), NONE);
  }

  private static void eat() {
    says(10, "EATEN: what is FELT. -10000 for others.");
    SpoonSet x = withLayers(0);
    int[] ahead = looks(x);
    each("eat(., 0)", d -> x.eat(d, 0), -10000, -1, 3, 6, LOW, HIGH);
    each("eat(0, .)", s -> x.eat(0, s), -10000, -1, 8, LOW, HIGH);
    same("nothing is done", ahead, looks(x));
    due("without diners", new SpoonSet().eat(0, 0), -10000);
  }

  private static void smith() {
    says(11, "NONE, if there is none, and for others.");
    SpoonSet x = withLayers(0);
    int[] ahead = looks(x);
    each("smith", x::smith, NONE, 1, 7, -1, 8, LOW, HIGH);
    same("nothing is done", ahead, looks(x));
  }

  private static void polish() {
    says(12, "NONE, if there is none, and for others.");
    SpoonSet x = withLayers(0);
    int[] ahead = looks(x);
    each("polish", x::polish, NONE, 1, 7, -1, 8, LOW, HIGH);
    same("nothing is done", ahead, looks(x));
  }

  private static void day() {
    says(13, "DINNERS pass (1 .. 60): how many eat in them. NONE for others, or beyond 9999 (nothing is done then).");
    SpoonSet x = withLayers(0);
    int[] ahead = looks(x);
    each("day", x::day, NONE, 0, -1, 61, LOW, HIGH);
    same("nothing is done", ahead, looks(x));
    due("day(1)", x.day(1), 0);
    due("day(60)", x.day(60), 0);
    due("is(0)", x.is(0), 61);
    SpoonSet late = pass(withDiners(9), 9940);
    late.card(0, 0);
    ahead = looks(late);
    due("day(60) to 10000", late.day(60), NONE);
    same("nothing is done", ahead, looks(late));
    due("day(59) to 9999", late.day(59) > 30, true);
    due("is(0)", late.is(0), 9999);
    ahead = looks(late);
    each("day", late::day, NONE, 1, 2, 60);
    same("nothing is done", ahead, looks(late));
  }

  private static void played() {
    says(14, "PLAYED by a TEXT: NONE: all is done; else the number of the CLAUSE that can't be. -2 for others.");
    SpoonSet x = withDiners(1, 1, 1);
    due("without texts", x.played(0), -2);
    read(x, "polish 0;");
    read(x, "eat 0 with 0;polish 0;");
    int[] ahead = looks(x);
    each("played", x::played, -2, -1, 2, 3, 4, LOW, HIGH);
    due("the first can't be", x.played(0), 0);
    same("nothing is done", ahead, looks(x));
    due("all is done", x.played(1), NONE);
    due("now it can be", x.played(0), NONE);
  }

  private static void years() {
    says(15, "YEARS: DINNER. NONE for others.");
    SpoonSet x = withDiners(1, 1, 1);
    int[] ahead = looks(x);
    each("years(., 1)", s -> x.years(s, 1), NONE, -1, 10000, LOW, HIGH);
    each("years(0, .)", n -> x.years(0, n), NONE, 0, -1, 41, LOW, HIGH);
    same("nothing is done", ahead, looks(x));
    due("years(0, 1)", x.years(0, 1), 1);
    due("years(9999, 40)", x.years(9999, 40), x.is(0));
    due("years(0, 40)", x.years(0, 40), x.is(0));
    due("years(9999, 1)", x.years(9999, 1), x.is(0));
    due("four steps", x.about(3), 4);
  }

  private static void undo() {
    says(16, "The latest STEP is taken back: how many can be yet. NONE: there is none.");
    SpoonSet x = withDiners(1, 1, 1);
    due("undo()", x.undo(), NONE);
    x.eat(0, 0);
    x.eat(1, 0);
    due("undo()", x.undo(), 1);
    due("undo()", x.undo(), 0);
    int[] ahead = looks(x);
    due("undo()", x.undo(), NONE);
    same("nothing is done", ahead, looks(x));
    due("is(3)", x.is(3), 255);
  }

  private static void of() {
    says(17, "Of a DINER: 0 what it GIVES, 1 its CARD (NONE: none), 2 its LAYERS in all SPOONS, 3 how STRONG they are together. -2 for others.");
    SpoonSet x = withLayers(0);
    due("of(0, 0)", x.of(0, 0), 3);
    due("of(0, 1)", x.of(0, 1), NONE);
    due("of(0, 2)", x.of(0, 2), 2);
    due("of(0, 3)", x.of(0, 3), 6);
    SpoonSet everywhere = withDiners(2);
    for (int s = 0; s < 8; s++) everywhere.eat(0, s);
    due("of(0, 2) on all spoons", everywhere.of(0, 2), 8);
    due("of(0, 3) on all spoons", everywhere.of(0, 3), 16);
    due("of(2, 2), none", x.of(2, 2), 0);
    due("of(2, 3), none", x.of(2, 3), 0);
    for (int what = 0; what <= 3; what++) {
      int asked = what;
      each("of(., " + what + ")", d -> x.of(d, asked), -2, -1, 3, 6, LOW, HIGH);
    }
    each("of(0, .)", w -> x.of(0, w), -2, -1, 4, LOW, HIGH);
  }

  private static void feels() {
    says(18, "What a DINER FEELS of one. -100 for others.");
    SpoonSet x = withLayers(0);
    each("feels(., 0)", d -> x.feels(d, 0), -100, -1, 3, 6, LOW, HIGH);
    each("feels(0, .)", m -> x.feels(0, m), -100, -1, 3, 6, LOW, HIGH);
    due("feels(2, 0)", x.feels(2, 0), 0);
  }

  private static void layers() {
    says(19, "How many LAYERS. NONE for others.");
    SpoonSet x = withLayers(0);
    each("layers", x::layers, NONE, -1, 8, LOW, HIGH);
    due("layers(0)", x.layers(0), 3);
    due("layers(7)", x.layers(7), 0);
  }

  private static void layer() {
    says(20, "Of the i-th LAYER from the top (from 0): 0 whose it is, 1 how STRONG, 2 fades now. NONE: there is none such, and for others.");
    SpoonSet x = withLayers(0);
    for (int what = 0; what <= 2; what++) {
      int asked = what;
      each("layer(0, ., " + what + ")", i -> x.layer(0, i, asked), NONE, -1, 3, 5, LOW, HIGH);
      each("layer(7, ., " + what + ")", i -> x.layer(7, i, asked), NONE, -1, 0, 1);
      each("layer(., 0, " + what + ")", s -> x.layer(s, 0, asked), NONE, -1, 8, LOW, HIGH);
    }
    each("layer(0, 0, .)", w -> x.layer(0, 0, w), NONE, -1, 3, LOW, HIGH);
    due("layer(0, 0, 0)", x.layer(0, 0, 0), 0);
    due("layer(0, 1, 0)", x.layer(0, 1, 0), 1);
    due("layer(0, 2, 1)", x.layer(0, 2, 1), 3);
    due("layer(0, 2, 2)", x.layer(0, 2, 2), 1);
  }

  private static void is() {
    says(21, "0 DINNER, 1 X, 2 MOOD, 3 SPOONS without LAYERS (bits), 4 how STRONG all is. -100000 for others.");
    SpoonSet x = withLayers(0);
    each("is", x::is, -100000, -1, 5, LOW, HIGH);
    due("is(3)", x.is(3), 254);
    due("is(4)", x.is(4), 10);
    SpoonSet full = withDiners(9, 9, 9, 9, 9, 9);
    due("is(3) of none", full.is(3), 255);
    due("is(4) of none", full.is(4), 0);
    for (int s = 0; s < 8; s++) {
      for (int d = 0; d < 5; d++) {
        full.eat(d, s);
        polishes(full, s, 4);
      }
    }
    due("is(3) of all", full.is(3), 0);
    due("is(4), 40 layers of 99", full.is(4), 3960);
    due("of(0, 3)", full.of(0, 3), 792);
  }

  private static void book() {
    says(22, "BOOK: how many (i NONE); the i-th, from the eldest on: 0 DINNER, 1 what (0 eaten, 1 by the smith, 2 polished), 2 the SPOON, 3 whose LAYER. -2 if there is none such, and for others.");
    SpoonSet x = withLayers(0);
    due("an empty book", withDiners(1).book(NONE, 0), 0);
    due("no line", withDiners(1).book(0, 0), -2);
    due("book(NONE, 0)", x.book(NONE, 0), 3);
    for (int what = 0; what <= 3; what++) {
      int asked = what;
      each("book(., " + what + ")", i -> x.book(i, asked), -2, -2, 3, 24, 25, LOW, HIGH);
    }
    each("book(0, .)", w -> x.book(0, w), -2, -1, 4, LOW, HIGH);
    due("the eldest", x.book(0, 3), 0);
    due("the next", x.book(1, 3), 1);
    SpoonSet lines = pass(withDiners(8), 9);
    lines.eat(0, 7);
    lines.polish(7);
    lines.smith(7);
    int[][] cells = {{9, 0, 7, 0}, {9, 2, 7, 0}, {9, 1, 7, NONE}};
    for (int i = 0; i < 3; i++) for (int w = 0; w < 4; w++) due("book(" + i + ", " + w + ")", lines.book(i, w), cells[i][w]);
  }

  private static void foretold() {
    says(23, "FORETOLD: how STRONG a SPOON is. NONE for others.");
    SpoonSet x = withLayers(0);
    each("foretold(., 0)", n -> x.foretold(n, 0), NONE, 0, -1, 61, LOW, HIGH);
    each("foretold(1, .)", s -> x.foretold(1, s), NONE, -1, 8, LOW, HIGH);
    due("foretold(1, 0)", x.foretold(1, 0), 7);
    due("foretold(1, 7)", x.foretold(1, 7), 0);
    due("foretold(60, 0)", x.foretold(60, 0), 0);
  }

  private static void tastes() {
    says(24, "TASTES: what would be FELT. -10000 for others.");
    SpoonSet x = withLayers(0);
    each("tastes(., 0)", d -> x.tastes(d, 0), -10000, -1, 3, 6, LOW, HIGH);
    each("tastes(0, .)", s -> x.tastes(0, s), -10000, -1, 8, LOW, HIGH);
    due("tastes(0, 7)", x.tastes(0, 7), 0);
  }

  private static void laid() {
    says(26, "THE BEST LAYING: the SPOON of a DINER. NONE for others.");
    SpoonSet x = withLayers(0);
    each("laid", x::laid, NONE, -1, 3, 6, LOW, HIGH);
    due("laid(2)", x.laid(2), 2);
    due("without diners", new SpoonSet().laid(0), NONE);
  }

  private static void rid() {
    says(28, "TO BE RID: how many. NONE for others.");
    SpoonSet x = withLayers(0);
    each("rid(., 0)", s -> x.rid(s, 0), NONE, -1, 8, LOW, HIGH);
    each("rid(0, .)", m -> x.rid(0, m), NONE, -1, 3, 6, LOW, HIGH);
    due("rid(7, 2)", x.rid(7, 2), 0);
  }

  private static void aloneForOthers() {
    says(29, "ALONE: SPOONS (bits). NONE for others.");
    SpoonSet x = withLayers(0);
    each("alone", x::alone, NONE, -1, 3, 6, LOW, HIGH);
    due("alone(2)", x.alone(2), 0);
  }

  private static void strongestForOthers() {
    says(30, "NONE: none, and for others.");
    SpoonSet x = withLayers(0);
    each("strongest", x::strongest, NONE, 2, -1, 3, 6, LOW, HIGH);
    due("strongest(1)", x.strongest(1), 0);
  }

  private static void thinForOthers() {
    says(31, "NONE for others (0 .. 99).");
    SpoonSet x = withLayers(0);
    each("thin", x::thin, NONE, -1, 100, LOW, HIGH);
    due("thin(0)", x.thin(0), 0);
    due("thin(99)", x.thin(99), 3);
  }

  private static void lasts() {
    says(32, "NONE: not by 60, there is none such, and for others.");
    SpoonSet x = withLayers(0);
    each("lasts(0, .)", i -> x.lasts(0, i), NONE, -1, 3, 5, LOW, HIGH);
    each("lasts(., 0)", s -> x.lasts(s, 0), NONE, 7, -1, 8, LOW, HIGH);
    SpoonSet lasts = withDiners(6, 6);
    for (int i = 0; i < 10; i++) lasts.eat(0, 3);
    due("60 strong", lasts.lasts(3, 0), 60);
    for (int i = 0; i < 10; i++) lasts.eat(1, 4);
    lasts.day(6);
    for (int i = 0; i < 2; i++) lasts.eat(0, 3);
    for (int i = 0; i < 1; i++) lasts.eat(1, 4);
    due("66 strong", lasts.lasts(3, 0), NONE);
    due("60 strong again", lasts.lasts(4, 0), 60);
    lasts.day(5);
    due("61 strong", lasts.layer(3, 0, 1), 61);
    due("not by 60", lasts.lasts(3, 0), NONE);
    lasts.day(1);
    due("by 60", lasts.lasts(3, 0), 60);
    lasts.by(read(lasts, "fades 0;"));
    due("never", lasts.lasts(3, 0), NONE);
  }

  private static void clue() {
    says(33, "A CLUE: how many there are (deep NONE: none any more). -2 for others (0 .. 4; a DINER, NONE: nobody), or if there are 6.");
    SpoonSet x = withLayers(0);
    due("none any more of none", x.clue(NONE, 0), 0);
    each("clue(., 0)", d -> x.clue(d, 0), -2, -2, 5, LOW, HIGH);
    each("clue(0, .)", m -> x.clue(0, m), -2, -2, 3, 6, LOW, HIGH);
    due("about(4)", x.about(4), 0);
    due("clue(0, 2)", x.clue(0, 2), 1);
    due("clue(4, NONE)", x.clue(4, NONE), 2);
    for (int i = 3; i <= 6; i++) due("clue(1, 1)", x.clue(1, 1), i);
    each("the 7th", d -> x.clue(d, 0), -2, 0, 4);
    due("about(4)", x.about(4), 6);
    due("none any more", x.clue(NONE, LOW), 0);
    due("about(4)", x.about(4), 0);
    due("which()", x.which(), 255);
  }

  private static void ask() {
    says(35, "NONE: none.");
    SpoonSet x = withLayers(0);
    x.clue(0, 0);
    due("one fits", x.ask(), NONE);
    x.clue(0, 1);
    due("none fits", x.ask(), NONE);
    x.clue(NONE, 0);
    due("eight fit", x.ask(), 0);
  }

  private static void where() {
    says(36, "WHERE: SPOONS (bits). NONE for others.");
    SpoonSet x = withLayers(0);
    each("where", x::where, NONE, -1, 3, 6, LOW, HIGH);
    due("where(0)", x.where(0), 1);
    due("where(2)", x.where(2), 0);
    x.eat(2, 7);
    due("where(2)", x.where(2), 128);
  }

  private static void meets() {
    says(37, "THEY MEET: SPOONS (bits). NONE for others.");
    SpoonSet x = eatsWith(withLayers(0), 7, 2);
    each("meets(., 0)", a -> x.meets(a, 0), NONE, -1, 3, 6, LOW, HIGH);
    each("meets(0, .)", b -> x.meets(0, b), NONE, -1, 3, 6, LOW, HIGH);
    due("meets(0, 2)", x.meets(0, 2), 0);
    due("meets(2, 2)", x.meets(2, 2), 128);
    due("meets(1, 0)", x.meets(1, 0), 1);
  }

  private static void link() {
    says(38, "A LINK: how many SPOONS. NONE: none, and for others.");
    SpoonSet x = withLayers(0);
    each("link(., 0)", a -> x.link(a, 0), NONE, 2, -1, 3, 6, 32, LOW, HIGH);
    each("link(0, .)", b -> x.link(0, b), NONE, 2, -1, 3, 6, 32, LOW, HIGH);
    each("link of itself", a -> x.link(a, a), NONE, -1, 3, 6);
    due("link(0, 1)", x.link(0, 1), 1);
  }

  private static void test() {
    says(39, "A TEST: how many there are (diners NONE: none any more). -2 for others (bits of DINERS), or if there are 8.");
    SpoonSet x = withLayers(0);
    due("none any more of none", x.test(NONE, true), 0);
    each("test(., true)", d -> x.test(d, true), -2, -2, 8, 9, 63, LOW, HIGH);
    due("about(5)", x.about(5), 0);
    due("without diners", new SpoonSet().test(1, true), -2);
    due("test(1, true)", x.test(1, true), 1);
    for (int i = 2; i <= 8; i++) due("test(7, false)", x.test(7, false), i);
    each("the 9th", d -> x.test(d, true), -2, 1, 7);
    due("about(5)", x.about(5), 8);
    due("none any more", x.test(NONE, false), 0);
    due("about(5)", x.about(5), 0);
    due("suspects(0)", x.suspects(0), 7);
    SpoonSet six = withDiners(1, 1, 1, 1, 1, 1);
    due("all six", six.test(63, false), 1);
    due("a seventh", six.test(64, false), -2);
  }

  private static void suspectsForOthers() {
    says(40, "SUSPECTS: DINERS (bits). NONE for others (0 .. 8).");
    SpoonSet x = withLayers(0);
    each("suspects", x::suspects, NONE, -1, 9, LOW, HIGH);
    each("suspects", x::suspects, 7, 0, 8);
  }

  private static void surestOfNone() {
    says(41, "NONE: none.");
    due("without diners", new SpoonSet().surest(), NONE);
    due("with", withDiners(1).surest(), 0);
  }

  private static void said() {
    says(49, "SAID: how many there are (diner NONE: none any more). -2 for others, or if there are 8.");
    SpoonSet x = withLayers(0);
    due("none any more of none", x.said(NONE, 0, 0), 0);
    each("said(., 0, 0)", d -> x.said(d, 0, 0), -2, -2, 3, 6, LOW, HIGH);
    each("said(0, ., 0)", s -> x.said(0, s, 0), -2, -1, 8, LOW, HIGH);
    each("said(0, 0, .)", t -> x.said(0, 0, t), -2, 1000, -1000, LOW, HIGH);
    due("about(6)", x.about(6), 0);
    due("said(2, 7, 999)", x.said(2, 7, 999), 1);
    due("said(0, 0, -999)", x.said(0, 0, -999), 2);
    for (int i = 3; i <= 8; i++) due("said(0, 0, 0)", x.said(0, 0, 0), i);
    due("the 9th", x.said(0, 0, 0), -2);
    due("about(6)", x.about(6), 8);
    due("none any more", x.said(NONE, LOW, HIGH), 0);
    due("about(6)", x.about(6), 0);
  }

  private static void house() {
    says(42, "False for others (0 .. 7 each).");
    SpoonSet x = new SpoonSet();
    x.house(0, 7);
    int[] ahead = looks(x);
    each("house(., 1)", h -> bit(x.house(h, 1)), 0, -1, 8, LOW, HIGH);
    each("house(0, .)", h -> bit(x.house(0, h)), 0, -1, 8, LOW, HIGH);
    same("nothing is told", ahead, looks(x));
  }

  private static void goes() {
    says(43, "NONE for others (0 .. 7; 0 .. 1000000).");
    SpoonSet x = new SpoonSet();
    each("goes(., 1)", h -> x.goes(h, 1), NONE, -1, 8, LOW, HIGH);
    each("goes(0, .)", n -> x.goes(0, n), NONE, -1, 1000001, LOW, HIGH);
    x.house(0, 7);
    due("goes(0, 0)", x.goes(0, 0), 0);
    due("goes(0, 1)", x.goes(0, 1), 7);
    due("goes(0, 1000000)", x.goes(0, 1000000), 7);
    for (int round = 1; round <= 8; round++) {
      // so many houses in a round, the others lead to it
      for (int h = 0; h < 8; h++) x.house(h, h == round - 1 ? 0 : h < round ? h + 1 : h - 1);
      for (int n : new int[] {0, 7, 8, 9, 839, 840, 841, 848, 849, 999999, 1000000}) {
        int at = 7;
        for (int i = 0; i < n; i++) at = at == round - 1 ? 0 : at < round ? at + 1 : at - 1;
        due("goes(7, " + n + ") to a round of " + round, x.goes(7, n), at);
      }
    }
  }

  private static void meet() {
    says(44, "WHEN TWO MEET: behind how many. NONE: never, and for others.");
    SpoonSet x = new SpoonSet();
    each("meet(., 0)", a -> x.meet(a, 0), NONE, 1, 7, -1, 8, LOW, HIGH);
    each("meet(0, .)", b -> x.meet(0, b), NONE, 1, 7, -1, 8, LOW, HIGH);
    each("meet of one", a -> x.meet(a, a), NONE, -1, 8);
    each("meet of one", a -> x.meet(a, a), 0, 0, 7);
  }

  private static void comes() {
    says(45, "WHO COMES: HOUSES (bits). NONE for others.");
    SpoonSet x = new SpoonSet();
    each("comes", x::comes, NONE, -1, 8, LOW, HIGH);
    due("comes(7)", x.comes(7), 128);
  }

  private static void value() {
    says(46, "False for others (0 .. 99 each).");
    SpoonSet x = new SpoonSet();
    x.value(0, 7, 8);
    int[] ahead = looks(x);
    each("value(., 1, 1)", s -> bit(x.value(s, 1, 1)), 0, -1, 8, LOW, HIGH);
    each("value(0, ., 1)", v -> bit(x.value(0, v, 1)), 0, -1, 100, LOW, HIGH);
    each("value(0, 1, .)", v -> bit(x.value(0, 1, v)), 0, -1, 100, LOW, HIGH);
    same("nothing is told", ahead, looks(x));
    due("value(0, 0, 99)", x.value(0, 0, 99), true);
    due("value(7, 99, 0)", x.value(7, 99, 0), true);
    due("99 mine", x.game(128), 99);
    due("99 hers", x.game(129), 99 - 99);
  }

  private static SpoonSet firstWouldHave7AndSecond0() {
    SpoonSet x = new SpoonSet();
    x.value(0, 0, 99);
    x.value(7, 99, 0);
    return x;
  }

  private static void gameForOthers() {
    says(47, "A GAME: how much more the first gets. -1000 for others (bits of 8).");
    SpoonSet x = firstWouldHave7AndSecond0();
    each("game", x::game, -1000, -1, 256, 257, LOW, HIGH);
    due("game(0)", x.game(0), 0);
    due("game(128)", x.game(128), 99);
    due("game(255)", x.game(255), 0);
  }

  private static void pick() {
    says(48, "NONE for others (bits of 8, not 0).");
    SpoonSet x = firstWouldHave7AndSecond0();
    each("pick", x::pick, NONE, 0, -1, 256, 257, LOW, HIGH);
    due("pick(128)", x.pick(128), 7);
    due("pick(255)", x.pick(255), 0);
  }

  private static void gladdestOfNone() {
    says(51, "NONE: none.");
    due("gladdest()", new SpoonSet().gladdest(), NONE);
    due("without layers", withDiners(1, 1).gladdest(), NONE);
    due("with", withLayers(6).gladdest(), 6);
  }

  private static void lovedForOthers() {
    says(52, "NONE: none, and for others.");
    SpoonSet x = withDiners(3, 4, 5);
    each("loved", x::loved, NONE, 0, 2, -1, 3, 6, LOW, HIGH);
    x.feel(2, 0, 1);
    due("loved(2)", x.loved(2), 0);
  }

  private static void feudOfNone() {
    says(53, "NONE: none.");
    feudIs(new SpoonSet(), NONE, NONE);
    SpoonSet x = withDiners(3, 4, 5);
    feudIs(x, NONE, NONE);
    x.feel(2, 1, -1);
    feudIs(x, 1, 2);
  }

  private static void eldestOfNone() {
    says(54, "NONE: none.");
    due("eldest()", new SpoonSet().eldest(), NONE);
    due("without layers", withDiners(1, 1).eldest(), NONE);
    due("with", withLayers(6).eldest(), 0);
  }

  private static void ledger() {
    says(55, "-2 for others.");
    SpoonSet x = withLayers(0);
    each("ledger", x::ledger, -2, -1, 3, 6, LOW, HIGH);
    due("ledger(0)", x.ledger(0), 2);
    due("ledger(2)", x.ledger(2), 0);
  }

  private static void image() {
    says(56, "THE IMAGE is as all is now: DINNER.");
    SpoonSet x = new SpoonSet();
    due("image() of a new one", x.image(), 0);
    pass(x, 9999);
    due("image() at the last dinner", x.image(), 9999);
    due("about(3)", x.about(3), 30);
  }

  private static void back() {
    says(57, "BACK to THE IMAGE (it stays): DINNER.");
    SpoonSet back = new SpoonSet();
    back.diner(5);
    due("back() to the new one", back.back(), 0);
    due("about(0)", back.about(0), 0);
    back.diner(6);
    back.eat(0, 0);
    back.day(2);
    due("image()", back.image(), 2);
    for (int i = 0; i < 3; i++) {
      back.day(3);
      back.smith(0);
      read(back, "diner 1;");
      due("back()", back.back(), 2);
      due("layer(0, 0, 1)", back.layer(0, 0, 1), 4);
      due("about(1)", back.about(1), 0);
      due("about(3)", back.about(3), 3);
    }
    back.undo();
    due("back() behind undo()", back.back(), 2);
    due("about(3)", back.about(3), 3);
    SpoonSet texts = new SpoonSet();
    read(texts, "fades 2;");
    texts.image();
    for (int t = 1; t < 4; t++) read(texts, "fades 3;");
    due("a fifth", read(texts, "fades 4;"), NONE);
    texts.back();
    due("there is room again", read(texts, "diner 7;"), 1);
    due("played(1)", texts.played(1), NONE);
    texts.eat(0, 0);
    texts.by(0);
    due("the image's own rules", texts.layer(0, 0, 2), 2);
  }

  private static void about() {
    says(58, "0 DINERS, 1 TEXTS, 2 THE TEXT (NONE), 3 STEPS that can be taken back, 4 CLUES, 5 TESTS, 6 SAID, 7 bytes of the tape. -2 for others.");
    SpoonSet about = new SpoonSet();
    for (int what = 0; what <= 7; what++) due("about(" + what + ") at first", about.about(what), what == 2 ? NONE : 0);
    each("about", about::about, -2, -1, 8, LOW, HIGH);
    for (int i = 0; i < 6; i++) about.diner(1);
    for (int i = 0; i < 4; i++) read(about, "");
    about.by(3);
    for (int i = 0; i < 31; i++) about.eat(0, 0);
    for (int i = 0; i < 7; i++) about.clue(0, 0);
    for (int i = 0; i < 9; i++) about.test(1, true);
    for (int i = 0; i < 9; i++) about.said(0, 0, 0);
    for (int i = 0; i < 16; i++) about.feed(0, 0, 0, 0, 0);
    int[] full = {6, 4, 3, 30, 6, 8, 8, 300};
    for (int what = 0; what <= 7; what++) due("about(" + what + ") full", about.about(what), full[what]);
  }
}
