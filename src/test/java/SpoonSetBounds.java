import java.io.IOException;
import java.nio.file.Files;
import java.nio.file.Path;
import java.util.Arrays;
import java.util.BitSet;
import java.util.Map;
import java.util.TreeMap;
import java.util.function.IntUnaryOperator;
import java.util.regex.Matcher;
import java.util.regex.Pattern;

/**
 * Each sentence of the document that names a boundary case (too small, too large, empty, full, held,
 * around, refused), by its own words and with a test of its own. At the end the document itself is
 * looked through: no sentence with a number, a NONE or the like may be without its test.
 */
public final class SpoonSetBounds {
  private static final int NONE = SpoonSet.NONE;
  private static final int LOW = Integer.MIN_VALUE;
  private static final int HIGH = Integer.MAX_VALUE;
  /** The parts of the document ahead of the promises. */
  private static final int PARTS = 0;
  private static final Path DOCUMENT = Path.of("../shared/DOC.md");
  private static final Pattern BOUND = Pattern.compile("[0-9]|NONE|\\bnone\\b|\\bmost\\b|\\bleast\\b|False|others|beyond|latest|\\bheld\\b|never|empty|Without|without");

  private static final Map<Integer, String> document = new TreeMap<>();
  private static final Map<Integer, BitSet> told = new TreeMap<>();
  private static String sentence = "";
  private static int checksOfSentence = 1;
  private static int sentences = 0;
  private static int checks = 0;
  private static int wrong = 0;

  public static void main(String[] args) throws IOException {
    readDocument();
    spoonsAndDiners();
    moodDinnerAndX();
    eaten();
    smithAndPolish();
    dinner();
    writtenAndSteps();
    tokens();
    clausesAndOnes();
    reckoning();
    faults();
    faultsOfDepthAndLaws();
    rulingAndPlaying();
    comingAndLaying();
    mouths();
    cluesAndLinks();
    thief();
    houses();
    gameAndLaw();
    standingOut();
    yearsAndImages();
    promisesOfTelling();
    promisesOfTexts();
    promisesOfSteps();
    promisesOfLooks();
    promisesOfWhatComes();
    promisesOfNotes();
    promisesOfHousesAndGame();
    promisesOfWhoStandsOut();
    promisesOfImages();
    says(PARTS, "");
    wholeDocumentIsTold();
    System.out.println(sentences + " sentences, " + checks + " checks, " + (wrong == 0 ? "all answers are as due" : wrong + " are not as due"));
    if (wrong != 0) System.exit(1);
  }

  // ---- the document's words

  private static void readDocument() throws IOException {
    String all = Files.readString(DOCUMENT);
    String parts = all.substring(all.indexOf("## Terms"), all.indexOf("The constants:")).replace("```text", "").replace("```", "");
    Matcher used = Pattern.compile("An object is used[^\n]*").matcher(all);
    document.put(PARTS, plain((used.find() ? used.group() : "") + " " + parts.substring("## Terms".length())));
    for (int promise = 1; promise <= 58; promise++) {
      int from = all.indexOf("## Promise " + promise + ":");
      String section = all.substring(all.indexOf('\n', from), all.indexOf("\n## ", from + 1));
      document.put(promise, plain(section.substring(section.indexOf("`: ") + 3)));
    }
    for (int section : document.keySet()) told.put(section, new BitSet());
  }

  private static String plain(String words) { return words.replaceAll("\\s+", " ").trim(); }

  /** A test begins: of this sentence (or part of one), which must be the document's own words. */
  private static void says(int promise, String words) {
    if (checksOfSentence == 0) complain("has no check");
    sentence = (promise == PARTS ? "" : "promise " + promise + ", ") + "\"" + words + "\"";
    if (words.isEmpty()) return;
    sentences++;
    checksOfSentence = 0;
    int at = document.get(promise).indexOf(words);
    if (at < 0) complain("isn't in the document");
    else told.get(promise).set(at, at + words.length());
  }

  private static void complain(String what) {
    wrong++;
    System.out.println(sentence + ": " + what);
  }

  private static void wholeDocumentIsTold() {
    for (int section : document.keySet()) {
      String words = document.get(section);
      StringBuilder left = new StringBuilder();
      for (int i = 0; i < words.length(); i++) left.append(told.get(section).get(i) ? '|' : words.charAt(i));
      for (String piece : left.toString().split("\\|+")) {
        sentence = "section " + section;
        if (BOUND.matcher(piece).find()) complain("no test tells \"" + piece.trim() + "\"");
      }
    }
  }

  // ---- what is due

  private static void due(String call, int got, int want) {
    checks++;
    checksOfSentence++;
    if (got != want) complain(call + " answered " + got + ", due is " + want);
  }

  private static void due(String call, boolean got, boolean want) { due(call, got ? 1 : 0, want ? 1 : 0); }

  /** Each of these arguments, one after the other, has the same answer. */
  private static void each(String call, IntUnaryOperator asked, int want, int... arguments) {
    for (int a : arguments) due(call + " of " + a, asked.applyAsInt(a), want);
  }

  private static int bit(boolean b) { return b ? 1 : 0; }

  private static void same(String what, int[] ahead, int[] behind) {
    due(what + " " + Arrays.toString(ahead) + " " + Arrays.toString(behind), Arrays.equals(ahead, behind), true);
  }

  /** So much of an object that a call which did something shows, in few calls (an object has 512). */
  private static int[] looks(SpoonSet x) {
    int[] all = new int[64];
    int n = 0;
    for (int what = 0; what <= 4; what++) all[n++] = x.is(what);
    for (int what = 0; what <= 7; what++) all[n++] = x.about(what);
    for (int d = 0; d < 3; d++) for (int what = 0; what <= 3; what++) all[n++] = x.of(d, what);
    for (int d = 0; d < 3; d++) all[n++] = x.feels(d, (d + 1) % 3);
    for (int s = 0; s < 8; s++) all[n++] = x.layers(s);
    for (int h = 0; h < 8; h++) all[n++] = x.goes(h, 1);
    for (int s = 0; s < 8; s++) all[n++] = x.game(3 << s & 255);
    all[n++] = x.book(NONE, 0);
    for (int what = 0; what <= 3; what++) all[n++] = x.book(x.about(3) - 1, what);
    all[n++] = x.which();
    all[n++] = x.suspects(0);
    all[n++] = x.whose();
    all[n++] = x.fault(0);
    all[n++] = x.fault(1);
    return all;
  }

  // ---- objects as the tests want them

  private static SpoonSet withDiners(int... gives) {
    SpoonSet x = new SpoonSet();
    for (int g : gives) x.diner(g);
    return x;
  }

  private static void onTape(SpoonSet x, String text) {
    x.end(0);
    for (int i = 0; i < text.length(); i += 20) {
      int[] five = new int[5];
      for (int k = 0; k < 20; k++) five[k / 4] = five[k / 4] << 8 | (i + k < text.length() ? text.charAt(i + k) & 255 : ' ');
      x.feed(five[0], five[1], five[2], five[3], five[4]);
    }
    x.end(text.length());
  }

  private static int read(SpoonSet x, String text) {
    onTape(x, text);
    return x.text();
  }

  /** A new object whose text rules. */
  private static SpoonSet ruledBy(String text, int... gives) {
    SpoonSet x = withDiners(gives);
    due("by of \"" + text + "\"", x.by(read(x, text)), true);
    return x;
  }

  /** These eat with the spoon, one after the other. */
  private static SpoonSet eatsWith(SpoonSet x, int spoon, int... diners) {
    for (int d : diners) x.eat(d, spoon);
    return x;
  }

  private static SpoonSet polishes(SpoonSet x, int spoon, int times) {
    for (int i = 0; i < times; i++) x.polish(spoon);
    return x;
  }

  /** So many dinners pass, 9999 at most, in at most 167 calls. */
  private static SpoonSet pass(SpoonSet x, int dinners) {
    for (int left = dinners; left > 0; left -= 60) x.day(Math.min(60, left));
    return x;
  }

  private static int nextX(int x) { return (int) ((x * 727L + 593L) % 31051L); }

  // ---- I

  private static void spoonsAndDiners() {
    says(PARTS, "An object is used for at most 512 calls after it has been made");
    SpoonSet x = withDiners(1, 2);
    for (int i = 0; i < 480; i++) x.eat(i % 2, i % 3);
    for (int i = 29; i >= 1; i--) due("undo()", x.undo(), i);
    due("the 512th call", x.about(3), 1);

    says(PARTS, "SPOONS 0 .. 7, each with");
    SpoonSet spoons = withDiners(4);
    each("layers", spoons::layers, 0, 0, 7);
    each("layers", spoons::layers, NONE, -1, 8, LOW, HIGH);
    each("eat(0, .)", s -> spoons.eat(0, s), -10000, -1, 8, LOW, HIGH);
    each("eat(0, .)", s -> spoons.eat(0, s), 0, 0, 7);
    due("is(3)", spoons.is(3), 126);

    says(PARTS, "LAYERS (5 at most; at first none)");
    SpoonSet full = withDiners(1, 2, 3, 4, 5, 6);
    for (int s = 0; s < 8; s++) due("layers(" + s + ")", full.layers(s), 0);
    for (int d = 0; d < 6; d++) {
      full.eat(d, 3);
      due("layers(3)", full.layers(3), Math.min(5, d + 1));
    }
    for (int i = 0; i < 5; i++) due("layer(3, " + i + ", 0)", full.layer(3, i, 0), 5 - i);
    due("layer(3, 5, 0)", full.layer(3, 5, 0), NONE);

    says(PARTS, "how STRONG (1 .. 99)");
    SpoonSet strong = withDiners(1, 2);
    eatsWith(strong, 0, 0);
    eatsWith(strong, 1, 1);
    strong.day(1);
    due("1 less 1 is gone", strong.layers(0), 0);
    due("2 less 1 is 1", strong.layer(1, 0, 1), 1);
    polishes(strong, 1, 7);
    due("128 is 99", strong.layer(1, 0, 1), 99);

    says(PARTS, "DINERS 0 .. 5 (told one by one)");
    SpoonSet diners = new SpoonSet();
    for (int d = 0; d < 6; d++) {
      due("of(" + d + ", 0) ahead of it", diners.of(d, 0), -2);
      due("diner(3)", diners.diner(3), d);
      due("of(" + d + ", 0)", diners.of(d, 0), 3);
    }
    due("a seventh", diners.diner(3), NONE);
    each("of(., 0)", d -> diners.of(d, 0), -2, -1, 6);

    says(PARTS, "what each GIVES 1 .. 9");
    SpoonSet gives = new SpoonSet();
    each("diner", gives::diner, NONE, 0, 10);
    due("diner(1)", gives.diner(1), 0);
    due("diner(9)", gives.diner(9), 1);
    eatsWith(gives, 0, 0);
    eatsWith(gives, 1, 1);
    due("layer(0, 0, 1)", gives.layer(0, 0, 1), 1);
    due("layer(1, 0, 1)", gives.layer(1, 0, 1), 9);

    says(PARTS, "what it FEELS of others (told; -9 .. 9; at first 0)");
    SpoonSet feels = withDiners(1, 1);
    due("feels(0, 1) at first", feels.feels(0, 1), 0);
    for (int f : new int[] {-9, 9}) {
      due("feel(0, 1, " + f + ")", feels.feel(0, 1, f), true);
      due("feels(0, 1)", feels.feels(0, 1), f);
    }
    each("feel(0, 1, .)", f -> bit(feels.feel(0, 1, f)), 0, -10, 10);
    due("feels(0, 1)", feels.feels(0, 1), 9);
    due("feels(1, 0) at first", feels.feels(1, 0), 0);
    SpoonSet all = withDiners(1, 1, 1, 1, 1, 1);
    for (int d = 0; d < 6; d++) for (int m = 0; m < 6; m++) all.feel(d, m, d - 2 * m);
    for (int d = 0; d < 6; d++) for (int m = 0; m < 6; m++) due("feels(" + d + ", " + m + ")", all.feels(d, m), d == m || d - 2 * m < -9 ? 0 : d - 2 * m);

    says(PARTS, "its CARD (told: a SPOON; at first none)");
    SpoonSet card = withDiners(1);
    due("of(0, 1) at first", card.of(0, 1), NONE);
    due("day(1) without a card", card.day(1), 0);
    due("card(0, 7)", card.card(0, 7), true);
    due("of(0, 1)", card.of(0, 1), 7);
    due("day(1)", card.day(1), 1);
  }

  /** Diner 1 has eaten with spoon 0, on which 0's layer is, till MOOD is the target; then text 1 rules, by which it is felt what it feels. */
  private static SpoonSet withMood(int target) {
    SpoonSet x = withDiners(1, 1);
    int sign = target < 0 ? -1 : 1;
    read(x, "fades 0;felt feels*11;");
    read(x, "fades 0;felt feels;");
    x.by(0);
    eatsWith(x, 0, 0, 1);
    x.feel(1, 0, 9 * sign);
    x.card(1, 0);
    for (int i = 0; i < 60 && Math.abs(target - x.is(2)) > 6000; i++) x.day(60);
    for (int i = 0; i < 70 && Math.abs(target - x.is(2)) >= 99; i++) x.eat(1, 0);
    x.by(1);
    for (int i = 0; i < 30 && x.is(2) != target; i++) {
      x.feel(1, 0, sign * Math.min(9, Math.abs(target - x.is(2))));
      x.eat(1, 0);
    }
    due("MOOD", x.is(2), target);
    return x;
  }

  private static void moodDinnerAndX() {
    says(PARTS, "MOOD -99999 .. 99999 (at first 0)");
    due("is(2)", new SpoonSet().is(2), 0);
    for (int sign : new int[] {1, -1}) {
      SpoonSet x = withMood(99998 * sign);
      x.feel(1, 0, sign);
      due("eat(1, 0)", x.eat(1, 0), sign);
      due("the last there is", x.is(2), 99999 * sign);
      x.feel(1, 0, -sign);
      x.eat(1, 0);
      due("and down again", x.is(2), 99998 * sign);
    }

    says(PARTS, "DINNER 0 .. 9999 (at first 0)");
    SpoonSet late = new SpoonSet();
    due("is(0)", late.is(0), 0);
    pass(late, 9998);
    due("day(1)", late.day(1), 0);
    due("is(0)", late.is(0), 9999);
    due("day(1)", late.day(1), NONE);
    due("is(0)", late.is(0), 9999);

    says(PARTS, "X: at first 461");
    due("is(1)", new SpoonSet().is(1), 461);

    says(PARTS, "BOOK (the latest 25)");
    SpoonSet x = withDiners(1, 2);
    for (int i = 0; i < 27; i++) {
      x.eat(i % 2, i % 8);
      due("book(NONE, 0)", x.book(NONE, 0), Math.min(25, i + 1));
    }
    for (int i = 0; i < 25; i++) {
      due("book(" + i + ", 2)", x.book(i, 2), (i + 2) % 8);
      due("book(" + i + ", 3)", x.book(i, 3), (i + 2) % 2);
    }
    due("book(25, 2)", x.book(25, 2), -2);
  }

  private static void eaten() {
    says(PARTS, "it has FELT what felt says (as it is then) of each LAYER that isn't its own (its own aren't asked), together");
    SpoonSet own = ruledBy("felt 50;", 1, 1, 1);
    due("of no layer", own.eat(0, 0), 0);
    due("of its own alone", own.eat(0, 0), 0);
    due("of one", own.eat(1, 0), 50);
    due("of one under its own", own.eat(1, 0), 50);
    due("of one over its own", own.eat(0, 0), 50);
    due("of three", own.eat(2, 0), 150);
    SpoonSet then = ruledBy("felt top spoon*10+strong;", 7, 1, 1);
    eatsWith(then, 4, 0);
    due("0 is on top then", then.eat(1, 4), 17);

    says(PARTS, "MOOD is more by that (held)");
    for (int sign : new int[] {1, -1}) {
      SpoonSet x = withMood(99995 * sign);
      x.feel(1, 0, 9 * sign);
      due("eat(1, 0) is felt whole", x.eat(1, 0), 9 * sign);
      due("is(2), held", x.is(2), 99999 * sign);
      x.eat(1, 0);
      due("is(2), held yet", x.is(2), 99999 * sign);
      x.feel(1, 0, -9 * sign);
      x.eat(1, 0);
      due("what was beyond is lost", x.is(2), 99990 * sign);
      x.feel(1, 0, 9 * sign);
      x.day(60);
      due("held at dinners", x.is(2), 99999 * sign);
    }

    says(PARTS, "Then the top LAYER, if it is its own, is as much STRONGER as it GIVES (99 at most)");
    SpoonSet ones = withDiners(1, 9);
    for (int i = 1; i <= 101; i++) {
      ones.eat(0, 0);
      if (i >= 97) due("layer(0, 0, 1)", ones.layer(0, 0, 1), Math.min(i, 99));
    }
    due("layers(0)", ones.layers(0), 1);
    for (int i = 1; i <= 12; i++) ones.eat(1, 1);
    due("108 is 99", ones.layer(1, 0, 1), 99);
    due("eat(1, 0)", ones.eat(1, 0), 0);
    due("another one's isn't", ones.layer(0, 0, 1), 9);
    due("it is under it", ones.layer(0, 1, 1), 99);

    says(PARTS, "else a new one is on top, so STRONG (of a SPOON with 5 the lowest one goes)");
    SpoonSet x = eatsWith(withDiners(3, 5), 2, 0, 1, 0, 1);
    due("4 layers", x.layers(2), 4);
    due("layer(2, 3, 0)", x.layer(2, 3, 0), 0);
    x.eat(0, 2);
    due("5 layers", x.layers(2), 5);
    due("none goes yet", x.layer(2, 4, 0), 0);
    x.eat(0, 2);
    due("its own on top: none goes", x.layer(2, 4, 0), 0);
    due("layer(2, 0, 1)", x.layer(2, 0, 1), 6);
    x.eat(1, 2);
    due("5 layers", x.layers(2), 5);
    due("the lowest is gone", x.layer(2, 4, 0), 1);
    due("the new one", x.layer(2, 0, 1), 5);
    due("that under it", x.layer(2, 1, 1), 6);
  }

  private static void smithAndPolish() {
    says(PARTS, "THE SMITH takes the lowest LAYER of a SPOON.");
    SpoonSet x = eatsWith(withDiners(3, 5), 2, 0, 1, 0, 1, 0);
    for (int left = 4; left >= 0; left--) {
      due("smith(2)", x.smith(2), left % 2);
      due("layers(2)", x.layers(2), left);
    }
    due("smith(2) of none", x.smith(2), NONE);

    says(PARTS, "POLISHED: the top one is twice as STRONG (99 at most).");
    SpoonSet seven = eatsWith(withDiners(7), 0, 0, 0, 0, 0, 0, 0, 0);
    due("49 is 98", seven.polish(0), 98);
    due("98 is 99", seven.polish(0), 99);
    due("99 is 99", seven.polish(0), 99);
    SpoonSet five = eatsWith(withDiners(5, 4), 0, 1, 0, 0, 0, 0, 0, 0, 0, 0, 0, 0);
    due("50 is 99", five.polish(0), 99);
    due("what is under it stays", five.layer(0, 1, 1), 4);
  }

  private static void dinner() {
    says(PARTS, "DINERS with a CARD by number: a draw by 8 (X mod 8, X being (X * 727 + 593) mod 31051 then): 0: it stays away, else it has EATEN with that SPOON.");
    SpoonSet x = ruledBy("fades 0;", 1, 1, 1);
    x.card(2, 5);
    x.card(0, 4);
    int drawn = 461;
    int lower = 0;
    int higher = 0;
    for (int i = 0; i < 100; i++) {
      int first = bit(drawn % 8 != 0);
      drawn = nextX(drawn);
      int second = bit(drawn % 8 != 0);
      drawn = nextX(drawn);
      lower += first;
      higher += second;
      due("day(1)", x.day(1), first + second);
      due("is(1)", x.is(1), drawn);
      due("how often 0 has eaten", x.of(0, 3), lower);
      due("how often 2 has eaten", x.of(2, 3), higher);
      if (i == 0) due("the lower one eats first", x.book(0, 2) * 10 + x.book(1, 2), 45);
    }
    due("both have stayed away at times", lower < 100 && higher < 100 && lower != higher, true);
    due("who has no card has no spoon", x.of(1, 2), 0);

    says(PARTS, "LAYERS from the top down are less STRONG by fades (each as all is then, deep and layers, too; what isn't more than 0 goes at once, those above come down)");
    SpoonSet exact = eatsWith(ruledBy("fades 3;", 2, 3, 4), 0, 0, 1, 2);
    exact.day(1);
    due("2 and 3 less 3 are gone", exact.layers(0), 1);
    due("4 less 3 comes down", exact.layer(0, 0, 1), 1);
    due("whose it is", exact.layer(0, 0, 0), 2);
    SpoonSet middle = eatsWith(ruledBy("fades if mouth=1 then 9 else 0 end;", 2, 9, 4), 0, 0, 1, 2);
    middle.day(1);
    due("the middle one goes", middle.layers(0), 2);
    due("what was above it", middle.layer(0, 0, 0), 2);
    due("what was under it", middle.layer(0, 1, 0), 0);
    SpoonSet then = eatsWith(ruledBy("fades if layers=3 then 5 else if layers=2 then 2 else 0 end end;", 9, 5, 5), 0, 0, 1, 2);
    then.day(1);
    due("the top goes of 3, the next is less by 2 of 2, the lowest too", then.layers(0), 2);
    due("layer(0, 0, 1)", then.layer(0, 0, 1), 3);
    due("layer(0, 1, 1)", then.layer(0, 1, 1), 7);
    SpoonSet deep = eatsWith(ruledBy("fades if deep=0 then 5 else 1 end;", 9, 5, 5), 0, 0, 1, 2);
    deep.day(1);
    due("each is the top one as the one above goes", deep.layers(0), 1);
    due("9 less 5", deep.layer(0, 0, 1), 4);
    SpoonSet top = eatsWith(eatsWith(ruledBy("fades if top 3=0 then 7 else if top 5=0 then 2 else 1 end end;", 1, 9), 3, 0), 5, 0);
    eatsWith(eatsWith(eatsWith(top, 2, 1), 4, 1), 6, 1);
    top.day(1);
    due("spoon 2 ahead of both", top.layer(2, 0, 1), 8);
    due("spoon 4, 3 being gone", top.layer(4, 0, 1), 2);
    due("spoon 6, both being gone", top.layer(6, 0, 1), 2);

    says(PARTS, "DINNER is one more (at 9999 none can pass)");
    SpoonSet late = withDiners(9);
    late.card(0, 1);
    pass(late, 9998);
    late.day(1);
    due("is(0)", late.is(0), 9999);
    int[] ahead = looks(late);
    due("day(1)", late.day(1), NONE);
    same("nothing is done", ahead, looks(late));
  }

  private static void writtenAndSteps() {
    says(PARTS, "Eaten, by the smith, polished (whose LAYER is on top then; NONE: nobody's) are written down.");
    SpoonSet x = eatsWith(withDiners(1, 2), 6, 0, 1);
    x.polish(6);
    x.smith(6);
    x.smith(6);
    int[][] lines = {{0, 0}, {0, 1}, {2, 1}, {1, 1}, {1, NONE}};
    for (int i = 0; i < 5; i++) {
      due("book(" + i + ", 1)", x.book(i, 1), lines[i][0]);
      due("book(" + i + ", 3)", x.book(i, 3), lines[i][1]);
    }
    x.smith(6);
    x.polish(6);
    x.eat(2, 6);
    due("what can't be isn't written", x.book(NONE, 0), 5);
    x.card(0, 2);
    x.day(1);
    due("eaten at a dinner, and gone behind it", x.book(5, 3), 0);
    due("layers(2)", x.layers(2), 0);

    says(PARTS, "the latest 30 can be taken back, the latest first (LAYERS, MOOD, DINNER, X, BOOK are as ahead of it)");
    SpoonSet steps = withDiners(1, 1);
    for (int i = 1; i <= 31; i++) {
      steps.eat(0, 0);
      due("about(3)", steps.about(3), Math.min(i, 30));
    }
    for (int i = 30; i >= 1; i--) {
      due("undo()", steps.undo(), i - 1);
      due("layer(0, 0, 1)", steps.layer(0, 0, 1), i);
      due("book(NONE, 0)", steps.book(NONE, 0), Math.min(25, i));
    }
    due("undo()", steps.undo(), NONE);
    due("the first of 31 stays", steps.layer(0, 0, 1), 1);
    for (int n : new int[] {29, 30, 31, 60}) {
      SpoonSet days = eatsWith(withDiners(1), 0, 0);
      days.day(n);
      due("steps behind day(" + n + ")", days.about(3), Math.min(30, n + 1));
      for (int i = 0; i < 30; i++) days.undo();
      due("is(0)", days.is(0), Math.max(0, n - 30));
      due("layers(0)", days.layers(0), bit(n == 30));
    }
    SpoonSet book = withDiners(1, 2);
    for (int i = 0; i < 26; i++) book.eat(i % 2, i % 8);
    due("the first line is gone", book.book(0, 2), 1);
    book.undo();
    for (int i = 0; i < 25; i++) due("it is there again, book(" + i + ", 2)", book.book(i, 2), i % 8);
    book.undo();
    book.polish(0);
    due("book(24, 1)", book.book(24, 1), 2);
    book.undo();
    due("book(24, 1)", book.book(24, 1), -2);

    says(PARTS, "STEPS: EATEN by hand, THE SMITH, POLISHED, a DINNER (each), YEARS (see V):");
    SpoonSet kinds = eatsWith(withDiners(9, 9), 0, 0, 1);
    kinds.feel(0, 1, 5);
    kinds.card(0, 0);
    kinds.eat(0, 0);
    kinds.smith(0);
    kinds.polish(0);
    due("steps", kinds.about(3), 5);
    kinds.day(3);
    due("a dinner each", kinds.about(3), 8);
    kinds.years(5, 40);
    due("years are one", kinds.about(3), 9);
    kinds.undo();
    due("behind 3 dinners", kinds.is(0), 3);
    due("X", kinds.is(1), nextX(nextX(nextX(461))));
    for (int i = 2; i >= 0; i--) {
      kinds.undo();
      due("dinners", kinds.is(0), i);
    }
    due("polished", kinds.layer(0, 0, 1), 18);
    kinds.undo();
    due("not polished", kinds.layer(0, 0, 1), 9);
    kinds.undo();
    due("the smith hasn't come", kinds.layers(0), 3);
    due("MOOD", kinds.is(2), 45);
    kinds.undo();
    due("not eaten", kinds.layers(0), 2);
    due("MOOD", kinds.is(2), 0);
    due("steps", kinds.about(3), 2);
    stepsGoAround();
  }

  /** Steps and takings back in turn, so that what can be taken back lies around the end of any row that holds it. */
  private static void stepsGoAround() {
    SpoonSet x = withDiners(1);
    for (int i = 0; i < 37; i++) x.eat(0, 0);
    for (int i = 0; i < 11; i++) x.undo();
    due("26 eaten, 19 to take back", x.about(3), 19);
    for (int i = 0; i < 7; i++) x.eat(0, 0);
    due("33 eaten, 26 to take back", x.about(3), 26);
    for (int i = 0; i < 29; i++) x.eat(0, 0);
    due("62 eaten", x.layer(0, 0, 1), 62);
    due("30 to take back", x.about(3), 30);
    for (int i = 61; i >= 32; i--) {
      due("undo()", x.undo(), i - 32);
      due("layer(0, 0, 1)", x.layer(0, 0, 1), i);
    }
    due("undo()", x.undo(), NONE);
  }

  // ---- II

  private static void faultIs(String text, int fault, int place) {
    SpoonSet x = new SpoonSet();
    due("text() of \"" + text + "\"", read(x, text), fault == 0 ? 0 : NONE);
    due("fault(0) of \"" + text + "\"", x.fault(0), fault);
    due("fault(1) of \"" + text + "\"", x.fault(1), place);
  }

  private static void isGood(String text) { faultIs(text, 0, NONE); }

  private static String times(String text, int n) {
    StringBuilder out = new StringBuilder();
    for (int i = 0; i < n; i++) out.append(text);
    return out.toString();
  }

  private static boolean isLetter(int b) { return b >= 'a' && b <= 'z' || b >= 'A' && b <= 'Z'; }

  private static void tokens() {
    says(PARTS, "TEXTS 0 .. 3: of up to 300 bytes.");
    SpoonSet x = new SpoonSet();
    for (int t = 0; t <= 3; t++) {
      due("by(" + t + ") ahead of it", x.by(t), false);
      due("text()", read(x, "smith " + t + ";"), t);
      due("by(" + t + ")", x.by(t), true);
    }
    due("a fifth", read(x, "smith 4;"), NONE);
    due("by(4)", x.by(4), false);
    due("by(-2)", x.by(-2), false);
    isGood("");
    isGood("felt " + times("1+", 146) + "1 ;");
    isGood(times(" ", 292) + "smith 0;");
    faultIs(times(" ", 300 - 3) + "fel", 1, 297);
    faultIs(times(" ", 300 - 4) + "felt", 1, 300);
    faultIs(times(" ", 300 - 7) + "smith 0", 1, 300);
    faultIs(times(" ", 300 - 7) + "smith 8", 2, 299);
    faultIs(times(" ", 300 - 10) + "felt if 1<", 1, 300);
    SpoonSet longest = eatsWith(ruledBy("felt " + times("1-", 145) + "1+99;", 1, 1), 0, 0);
    due("all of 300 bytes is read", longest.tastes(1, 0), 1 - 145 + 99);

    says(PARTS, "TOKENS, blanks (32, 10) aside: letters a .. z, A .. Z one behind the other (one TOKEN)");
    for (int b = 0; b < 256; b++) {
      String text = "smith" + (char) b + "0;";
      if (b == 32 || b == 10 || b == '0') isGood(text);
      else if (isLetter(b)) faultIs(text, 1, 0);
      else if (b >= '1' && b <= '9') faultIs(text, 2, 5);
      else faultIs(text, 1, 5);
    }
    isGood("\n\n  \nsmith 0;\n \n");
    faultIs("smi th 0;", 1, 0);
    faultIs("smi\nth 0;", 1, 0);
    faultIs("SMITH 0;", 1, 0);

    says(PARTS, "digits likewise (NUMBERS, 0 .. 9999)");
    isGood("felt 0;");
    isGood("felt 9999;");
    isGood("felt 0000009999;");
    faultIs("felt 10000;", 2, 5);
    faultIs("felt 99 99;", 1, 8);
    SpoonSet number = eatsWith(ruledBy("felt 9999-9950;", 1, 1), 0, 0);
    due("9999 less 9950", number.tastes(1, 0), 49);

    says(PARTS, "<= >= < > = # + - * / ( ) ; (the longest)");
    for (int b = 0; b < 256; b++) {
      String text = "felt 1" + (char) b + "1;";
      boolean sign = "+-*/".indexOf(b) >= 0 && b != 0;
      if (sign || b >= '0' && b <= '9') isGood(text);
      else faultIs(text, 1, b == 32 || b == 10 || b == ';' ? 7 : 6);
    }
    isGood("felt if 1<=2 then 1 else 2 end;");
    isGood("felt if 1>=2 then 1 else 2 end;");
    faultIs("felt if 1< =2 then 1 else 2 end;", 1, 11);
    faultIs("felt if 1> =2 then 1 else 2 end;", 1, 11);
    faultIs("felt if 1<==2 then 1 else 2 end;", 1, 11);
    faultIs("felt if 1=<2 then 1 else 2 end;", 1, 10);
    faultIs("felt if 1=>2 then 1 else 2 end;", 1, 10);
    faultIs("felt if 1<>2 then 1 else 2 end;", 1, 10);
    faultIs("felt if 1==2 then 1 else 2 end;", 1, 10);
    faultIs("felt if 1##2 then 1 else 2 end;", 1, 10);
  }

  /** What a law of felt says to diner 1 (it gives 8 and feels -4 of 0) of 0's layer (7 strong) on spoon 2, which is under its own. */
  private static void feltIs(String sum, int want) {
    SpoonSet x = eatsWith(ruledBy("felt " + sum + ";", 7, 8), 2, 0, 1);
    x.feel(1, 0, -4);
    due("felt " + sum, x.tastes(1, 2), want);
  }

  private static void clausesAndOnes() {
    says(PARTS, "{CLAUSE}, 24 at most");
    isGood("");
    isGood(" \n");
    isGood(times("smith 0;", 24));
    faultIs(times("smith 0;", 25), 6, 192);
    SpoonSet all = withDiners(1);
    eatsWith(all, 0, 0);
    read(all, times("polish 0;", 23) + "smith 0;");
    due("played(0)", all.played(0), NONE);
    due("the 24th is done", all.layers(0), 0);

    says(PARTS, "fades SUM ; or felt SUM ; (each once)");
    isGood("fades 1;felt 1;");
    isGood("felt 1;smith 0;fades 1;");
    for (String laws : new String[] {"fades 2;felt 3;", "felt 3;fades 2;", "felt 1+2;smith 0;fades 1*2;"}) {
      SpoonSet each = eatsWith(ruledBy(laws, 1, 1), 0, 0);
      due("fades of " + laws, each.layer(0, 0, 2), 2);
      due("felt of " + laws, each.tastes(1, 0), 3);
    }
    faultIs("fades 1;fades 1;", 4, 8);
    faultIs("felt 1;felt 1;", 4, 7);
    faultIs("fades;", 1, 5);
    faultIs("felt ;", 1, 5);

    says(PARTS, "gives ONE (what the DINER of that number GIVES; 0 for others)");
    feltIs("gives 0", 7);
    feltIs("gives 1", 8);
    feltIs("gives 2", 0);
    feltIs("gives 6", 0);
    feltIs("gives -1", 0);
    feltIs("gives 9999", 0);
    feltIs("gives (9999*9999)", 0);
    feltIs("gives (-9999*9999)", 0);
    SpoonSet six = eatsWith(ruledBy("felt gives 5*10+gives 6;", 1, 2, 3, 4, 5, 6), 0, 0);
    due("six diners", six.tastes(1, 0), 60);

    says(PARTS, "top ONE (1 and whose LAYER is on top of the SPOON of that number; 0: none, and for others)");
    feltIs("top 2", 2);
    feltIs("top 3", 0);
    feltIs("top 8", 0);
    feltIs("top -1", 0);
    feltIs("top 9999", 0);
    feltIs("top (9999*9999)", 0);
    feltIs("top (-9999*9999)", 0);
    SpoonSet ends = withDiners(1, 2, 3, 4, 5, 6);
    eatsWith(eatsWith(ends, 0, 0), 7, 5);
    ends.by(read(ends, "felt top 0*10+top 7;"));
    due("0 on the first, 5 on the last", ends.tastes(1, 0), 16);

    says(PARTS, "ASK: not ASK, or SUM one of < <= > >= = # (unlike) SUM.");
    String[] signs = {"<", "<=", ">", ">=", "=", "#"};
    int[][] holds = {{1, 0, 0}, {1, 1, 0}, {0, 0, 1}, {0, 1, 1}, {0, 1, 0}, {1, 0, 1}};
    for (int i = 0; i < 6; i++) {
      for (int a = 0; a < 3; a++) {
        feltIs("if " + (6 + a) + signs[i] + "strong then 1 else 0 end", holds[i][a]);
        feltIs("if not " + (6 + a) + signs[i] + "strong then 1 else 0 end", 1 - holds[i][a]);
      }
    }
    faultIs("felt if 1 then 1 else 2 end;", 1, 10);
    faultIs("felt if not then 1 else 2 end;", 1, 12);
    faultIs("felt if 1<2<3 then 1 else 2 end;", 1, 11);

    says(PARTS, "deep (how many are above it) in both; layers (how many the SPOON has) in fades; diner, feels (what it FEELS of the mouth) in felt");
    SpoonSet deep = eatsWith(ruledBy("fades deep;felt if deep=4 then 9 else 0 end;", 5, 5, 5), 0, 0, 1, 0, 1, 0);
    for (int i = 0; i < 5; i++) due("fades deep", deep.layer(0, i, 2), i);
    due("felt deep", deep.tastes(2, 0), 9);
    SpoonSet layers = ruledBy("fades layers;", 5, 5);
    for (int i = 1; i <= 6; i++) {
      layers.eat(i % 2, 0);
      due("fades layers", layers.layer(0, 0, 2), Math.min(i, 5));
    }
    feltIs("deep", 1);
    feltIs("diner", 1);
    feltIs("feels", -4);
  }

  private static void reckoning() {
    says(PARTS, "From the left; / cuts towards 0, by 0 it is 0;");
    feltIs("20-5-3", 12);
    feltIs("60/7/2", 4);
    feltIs("60/7*2", 16);
    feltIs("5/6", 0);
    feltIs("6/6", 1);
    feltIs("-5/6", 0);
    feltIs("-11/6", -1);
    feltIs("11/-6", -1);
    feltIs("-11/-6", 1);
    feltIs("-12/6", -2);
    feltIs("5/0", 0);
    feltIs("-5/0", 0);
    feltIs("0/0", 0);
    feltIs("9/(3-3)+1", 1);

    says(PARTS, "what is above 1000000 (below the same less) is that, at each step.");
    // 9999 * 100 is 999900, so that what is less by it can be felt
    for (String sign : new String[] {"", "-"}) {
      int way = sign.isEmpty() ? 1 : -1;
      feltIs(sign + "(9999*100+99-9999*100-50)", 49 * way);
      feltIs(sign + "(9999*100+100-9999*100-50)", 50 * way);
      feltIs(sign + "(9999*100+101-9999*100-50)", 50 * way);
      feltIs(sign + "(9999*100+9999-9999*100-50)", 50 * way);
      feltIs(sign + "(9999*100+109-9-9999*100-50)", 41 * way);
      feltIs(sign + "(9999*101-9999*100-50)", 50 * way);
      feltIs(sign + "(9999*9999/9999-50)", 50 * way);
      feltIs(sign + "((9999*9999)*(9999*9999)-9999*100-50)", 50 * way);
      feltIs(sign + "(9999*9999+9999*9999-9999*100-50)", 50 * way);
    }
    feltIs("0-9999*100-99+9999*100+50", -49);
    feltIs("0-9999*100-100+9999*100+50", -50);
    feltIs("0-9999*100-101+9999*100+50", -50);
    feltIs("0-9999*100-109+9+9999*100+50", -41);
    feltIs("-9999*9999+9999*100+50", -50);
    feltIs("(9999*9999)*(-9999*9999)+9999*100+50", -50);
    feltIs("-(-9999*9999)-9999*100-50", 50);
    feltIs("if 9999*100+101=9999*9999 then 1 else 2 end", 1);

    says(PARTS, "or and and look at both sides always, of if just the SUM that is chosen is asked.");
    feltIs("if 1=1 or 1/0=1 then 3 else 4/0 end", 3);
    feltIs("if 1=2 and 1/0=0 then 3/0 else 4 end", 4);
    feltIs("if 1=2 or 1=1 then 3 else 4 end", 3);
    feltIs("if 1=1 or 1=2 then 3 else 4 end", 3);
    feltIs("if 1=2 or 2=1 then 3 else 4 end", 4);
    feltIs("if 1=1 and 2=2 then 3 else 4 end", 3);
    feltIs("if 1=2 and 2=2 then 3 else 4 end", 4);
    feltIs("if 1=1 and 1=2 then 3 else 4 end", 4);
    feltIs("if 1=1 or 1=1 and 1=2 then 3 else 4 end", 3);
    feltIs("if 1=1 then 3 else 4 end+10", 13);
    feltIs("if 1=2 then 3 else 4 end*10-1", 39);
    feltIs("2*if 1=1 then if 1=2 then 3 else 4 end else 5/0 end+1", 9);
  }

  private static void faults() {
    says(PARTS, "FAULTS, the first as TOKENS are come to,");
    faultIs("smith 8;foo", 2, 6);
    faultIs("foo 10000;", 1, 0);
    faultIs("fades feels 10000;", 5, 6);
    faultIs("fades 10000 feels;", 2, 6);
    faultIs("fades 1;fades (((((((((", 4, 8);

    says(PARTS, "at the TOKEN's first byte (of the end at the length),");
    faultIs("\n  smithy 0;", 1, 3);
    faultIs("smith   12345;", 2, 8);
    faultIs("smith 0", 1, 7);
    faultIs("smith 0 \n ", 1, 10);
    faultIs("smith", 1, 5);
    faultIs("felt (1", 1, 7);
    faultIs("felt if 1<2 then 3 else 4", 1, 25);
    faultIs("felt " + times("1+", 147) + " ", 1, 300);

    says(PARTS, "of one the least:");
    faultIs("smith 0 10000;", 1, 8);
    faultIs("10000;", 1, 0);
    faultIs("felt ((((((((1(", 1, 14);
    faultIs("felt ((((((((not", 1, 13);
    faultIs("felt 1 layers;", 1, 7);
    faultIs("felt layers;", 5, 5);
    faultIs("fades 1;" + times("smith 0;", 23) + "fades 1;", 4, 192);
    faultIs("fades 1;" + times("smith 0;", 23) + "felt 1;", 6, 192);
    faultIs(times("smith 0;", 24) + "strong 1;", 1, 192);
    faultIs(times("smith 0;", 24) + ";", 1, 192);

    says(PARTS, "1 it can't stand there, or is none.");
    faultIs(";", 1, 0);
    faultIs("smith 0;;", 1, 8);
    faultIs("strong 1;", 1, 0);
    faultIs("felt strange;", 1, 5);
    faultIs("felt 1 & 2;", 1, 7);
    faultIs("felt 1;" + (char) 0, 1, 7);
    faultIs("felt 1;" + (char) 255, 1, 7);
    faultIs("diner;", 1, 5);
    faultIs("card 0 0;", 1, 7);
    faultIs("card 0 at;", 1, 9);
    faultIs("eat 0 at 0;", 1, 6);
    faultIs("eat 0 with;", 1, 10);
    faultIs("smith -1;", 1, 6);
    faultIs("polish strong;", 1, 7);
    faultIs("day (1);", 1, 4);
    faultIs("felt ();", 1, 6);
    faultIs("felt 1);", 1, 6);
    faultIs("felt (1;", 1, 7);
    faultIs("felt (1<2);", 1, 7);
    faultIs("felt gives;", 1, 10);
    faultIs("felt top;", 1, 8);
    faultIs("felt -;", 1, 6);
    faultIs("felt 1+;", 1, 7);
    faultIs("felt *1;", 1, 5);
    faultIs("felt if 1<2 else 3 end;", 1, 12);
    faultIs("felt if 1<2 then 3 end;", 1, 19);
    faultIs("felt if 1<2 then 3 else 4;", 1, 25);
    faultIs("felt if 1<2 and then 3 else 4 end;", 1, 16);
    faultIs("felt if 1<2 or then 3 else 4 end;", 1, 15);
    faultIs("felt 1 or 2;", 1, 7);
    faultIs("felt end;", 1, 5);

    says(PARTS, "2 a NUMBER that isn't one of those told (above 9999; GIVES 1 .. 9, DINERS 0 .. 5, SPOONS 0 .. 7, DINNERS 1 .. 60).");
    numbersOf("fades ", ";", 0, 9999);
    numbersOf("felt 1+(", ");", 0, 9999);
    numbersOf("diner ", ";", 1, 9);
    numbersOf("card ", " at 0;", 0, 5);
    numbersOf("card 5 at ", ";", 0, 7);
    numbersOf("eat ", " with 0;", 0, 5);
    numbersOf("eat 5 with ", ";", 0, 7);
    numbersOf("smith ", ";", 0, 7);
    numbersOf("polish ", ";", 0, 7);
    numbersOf("day ", ";", 1, 60);
  }

  /** A clause with a number in its midst: the least and the most that may be there, and those beyond. */
  private static void numbersOf(String ahead, String behind, int least, int most) {
    isGood(ahead + least + behind);
    isGood(ahead + most + behind);
    faultIs(ahead + (most + 1) + behind, 2, ahead.length());
    if (least > 0) faultIs(ahead + (least - 1) + behind, 2, ahead.length());
    for (String much : new String[] {"10000", "65536", "2147483648", "4294967297", "18446744073709551617", times("9", 200)})
      faultIs(ahead + much + behind, 2, ahead.length());
  }

  private static void faultsOfDepthAndLaws() {
    says(PARTS, "3 the 9th of ( not gives top if and - (of one ONE) that are open around one another (at it).");
    for (String one : new String[] {"(", "-", "gives ", "top "}) {
      String close = one.equals("(") ? ")" : "";
      isGood("felt " + times(one, 8) + "1" + times(close, 8) + ";");
      faultIs("felt " + times(one, 9) + "1" + times(close, 9) + ";", 3, 5 + 8 * one.length());
      // the others as the 9th, behind eight of this one
      for (String ninth : new String[] {"(", "-", "gives ", "top ", "if "}) faultIs("felt " + times(one, 8) + ninth, 3, 5 + 8 * one.length());
    }
    isGood("felt if " + times("not ", 7) + "1=1 then 1 else 2 end;");
    faultIs("felt if " + times("not ", 8) + "1=1 then 1 else 2 end;", 3, 8 + 7 * 4);
    for (String ninth : new String[] {"(", "-", "gives ", "top ", "if "}) faultIs("felt if " + times("not ", 7) + ninth, 3, 8 + 7 * 4);
    String nested = times("if 1<2 then ", 8) + "1" + times(" else 2 end", 8);
    isGood("felt " + nested + ";");
    faultIs("felt " + times("if 1<2 then ", 9), 3, 5 + 8 * 12);
    faultIs("felt if 1<2 then 1 else " + times("(", 8), 3, 24 + 7);
    // what is closed counts no more
    isGood("felt " + times("((((((((1))))))))+", 3) + "1;");
    isGood("felt --------1+--------1-1;");
    isGood("felt 1" + times("-1", 20) + ";");
    isGood("felt gives gives gives gives top top top top 1*gives 1;");
    isGood("felt if " + times("not ", 7) + "1=1 and " + times("not ", 7) + "1=1 or (1)=1 then (((((((1))))))) else -------1 end+(1);");
    isGood("fades ((((((((1))))))));felt ((((((((1))))))));");

    says(PARTS, "4 fades, felt for the second time (at it).");
    faultIs("fades 1;felt 1; fades", 4, 16);
    faultIs("fades 1;felt 1;\nfelt 1;", 4, 16);
    isGood("fades 1;felt 1;smith 0;");

    says(PARTS, "5 a NAME that isn't of that CLAUSE (at it).");
    isGood("fades day+spoon+mouth+strong+deep+layers;");
    isGood("felt day+spoon+mouth+strong+deep+diner+feels;");
    faultIs("fades day+diner;", 5, 10);
    faultIs("fades day+ feels;", 5, 11);
    faultIs("felt day+layers;", 5, 9);
    faultIs("fades 1;felt if 1<layers then 1 else 2 end;", 5, 18);
    faultIs("felt 1;fades gives diner;", 5, 19);

    says(PARTS, "6 the 25th CLAUSE (at its first TOKEN).");
    isGood(times("day 1;", 24));
    faultIs(times("day 1;", 24) + "\n day 61;", 6, 146);
    faultIs(times("day 1;", 24) + "felt", 6, 144);
    faultIs(times("day 1;", 23) + "felt 1;fades 1;", 6, 145);
  }

  private static void rulingAndPlaying() {
    says(PARTS, "THE TEXT (told; at first none) rules.");
    SpoonSet x = eatsWith(withDiners(4, 4), 0, 0);
    due("about(2)", x.about(2), NONE);
    read(x, "fades 5;felt 7;");
    due("a text that isn't told doesn't rule", x.about(2), NONE);
    due("fades", x.layer(0, 0, 2), 1);
    due("felt", x.tastes(1, 0), 0);
    x.by(0);
    due("fades", x.layer(0, 0, 2), 5);
    due("felt", x.tastes(1, 0), 7);
    x.by(NONE);
    due("fades", x.layer(0, 0, 2), 1);
    for (int t = 1; t <= 3; t++) read(x, "fades 6;felt 8;");
    due("four texts, none of which rules", x.layer(0, 0, 2), 1);
    due("felt", x.tastes(1, 0), 0);
    x.by(3);
    due("the last rules", x.layer(0, 0, 2), 6);

    says(PARTS, "fades: 0 at least, 9 at most; without: 1.");
    int[][] fades = {{-9999, 0}, {-1, 0}, {0, 0}, {1, 1}, {8, 8}, {9, 9}, {10, 9}, {9999, 9}};
    for (int[] f : fades) {
      SpoonSet law = eatsWith(ruledBy("fades 0+" + (f[0] < 0 ? "-" + -f[0] : "" + f[0]) + ";", 5), 0, 0, 0, 0, 0);
      due("fades " + f[0], law.layer(0, 0, 2), f[1]);
      law.day(1);
      due("20 less that", law.layer(0, 0, 1), 20 - f[1]);
    }
    SpoonSet without = eatsWith(ruledBy("felt 5;", 5), 0, 0);
    due("a text without", without.layer(0, 0, 2), 1);
    without.day(1);
    due("5 less 1", without.layer(0, 0, 1), 4);
    due("no text", eatsWith(withDiners(5), 0, 0).layer(0, 0, 2), 1);

    says(PARTS, "felt: -99 at least, 99 at most; without: what it FEELS times how STRONG by one more than deep (cut).");
    int[][] felt = {{-9999, -99}, {-100, -99}, {-99, -99}, {-98, -98}, {0, 0}, {98, 98}, {99, 99}, {100, 99}, {9999, 99}};
    for (int[] f : felt) {
      SpoonSet law = eatsWith(ruledBy("felt 0+" + (f[0] < 0 ? "-" + -f[0] : "" + f[0]) + ";", 5, 5, 5), 0, 0);
      due("felt " + f[0], law.tastes(1, 0), f[1]);
      eatsWith(law, 0, 1);
      due("of each layer, not of all", law.tastes(2, 0), 2 * f[1]);
    }
    for (int sign : new int[] {1, -1}) {
      SpoonSet deep = withDiners(5, 1, 1);
      eatsWith(deep, 0, 0);
      deep.feel(2, 0, 9 * sign);
      int[] cut = {45, 22, 15, 11, 9};
      for (int i = 0; i < 5; i++) {
        due("45 by " + (i + 1), deep.tastes(2, 0), sign * cut[i]);
        eatsWith(deep, 0, 1, 2);
        deep = i == 4 ? deep : under(sign, i + 1);
      }
      SpoonSet eleven = withDiners(1, 1);
      for (int i = 1; i <= 13; i++) {
        eleven.eat(0, 0);
        eleven.feel(1, 0, 9 * sign);
        due("9 times " + i, eleven.tastes(1, 0), sign * Math.min(99, 9 * i));
      }
    }

    says(PARTS, "PLAYED by a TEXT: its CLAUSES but laws, in their order, as by hand; one that can't be ends it (of so many DINNERS those that can pass do): its number among all CLAUSES (from 0); what was done stays.");
    playsTill("smith 0;diner 1;", 0, 0);
    playsTill("polish 7;diner 1;", 0, 0);
    playsTill("eat 0 with 0;diner 1;", 0, 0);
    playsTill("card 0 at 0;diner 1;", 0, 0);
    playsTill("diner 1;card 1 at 0;diner 1;", 1, 1);
    playsTill("felt 1;diner 1;fades 1;smith 0;diner 1;", 3, 1);
    playsTill(times("diner 9;", 7), 6, 6);
    playsTill(times("diner 9;", 6) + "felt 1;", NONE, 6);
    playsTill("felt 1;fades 1;", NONE, 0);
    playsTill("", NONE, 0);
    playsTill("diner 1;eat 0 with 7;polish 7;smith 7;day 60;", NONE, 1);
    SpoonSet card = new SpoonSet();
    read(card, "diner 1;card 0 at 7;");
    card.played(0);
    due("a card", card.of(0, 1), 7);
    due("nobody has eaten", card.is(3), 255);
    SpoonSet late = pass(withDiners(9), 9990);
    read(late, "eat 0 with 0;day 9;diner 1;day 1;diner 2;");
    due("played(0)", late.played(0), 3);
    due("is(0)", late.is(0), 9999);
    due("about(0)", late.about(0), 2);
    due("steps", late.about(3), 30);
    late.undo();
    due("the last dinner is taken back", late.is(0), 9998);
    read(late, "day 60;diner 3;");
    due("played(1)", late.played(1), 0);
    due("the one that can pass does", late.is(0), 9999);
    due("about(0)", late.about(0), 2);
    due("played(1)", late.played(1), 0);
    due("none can", late.is(0), 9999);
  }

  /** Diner 0's layer, 5 strong, under so many that diner 2 (of whom it feels nothing but of 0) doesn't mind. */
  private static SpoonSet under(int sign, int deep) {
    SpoonSet x = withDiners(5, 1, 1, 1);
    eatsWith(x, 0, 0);
    for (int i = 0; i < deep; i++) x.eat(i % 2 == 0 ? 1 : 3, 0);
    x.feel(2, 0, 9 * sign);
    return x;
  }

  private static void playsTill(String text, int want, int diners) {
    SpoonSet x = new SpoonSet();
    read(x, text);
    due("played(0) of \"" + text + "\"", x.played(0), want);
    due("diners then", x.about(0), diners);
  }

  // ---- III

  private static void comingAndLaying() {
    says(PARTS, "All that follows changes nothing but what is told.");
    SpoonSet asked = eatsWith(withDiners(5, 6, 7), 0, 0, 1, 2);
    asked.card(0, 0);
    asked.clue(0, 2);
    asked.test(1, true);
    asked.said(0, 0, 0);
    int[] ahead = looks(asked);
    asked.foretold(60, 0);
    asked.lasts(0, 0);
    asked.best(true);
    asked.best(false);
    asked.laid(0);
    asked.layings();
    asked.tastes(0, 0);
    asked.rid(0, 0);
    asked.alone(0);
    asked.strongest(0);
    asked.thin(5);
    asked.ask();
    asked.link(0, 1);
    asked.surest();
    asked.pick(255);
    asked.meet(0, 1);
    same("all is as it was", ahead, looks(asked));

    says(PARTS, "FORETOLD behind n DINNERS (1 .. 60; those that can pass), nothing else being done.");
    SpoonSet come = eatsWith(withDiners(9, 1), 0, 0);
    polishes(come, 0, 4);
    due("foretold(1, 0)", come.foretold(1, 0), 98);
    due("foretold(60, 0)", come.foretold(60, 0), 39);
    each("foretold(., 0)", n -> come.foretold(n, 0), NONE, 0, 61);
    come.card(1, 2);
    int strong = come.foretold(60, 2);
    come.day(60);
    due("so it comes", come.is(4) - come.layer(0, 0, 1), strong);
    SpoonSet late = eatsWith(pass(withDiners(9), 9998), 0, 0);
    due("one can pass", late.foretold(60, 0), 8);
    due("foretold(1, 0)", late.foretold(1, 0), 8);
    late.day(1);
    due("none can pass", late.foretold(60, 0), 8);

    says(PARTS, "A LAYING: each DINER a SPOON of its own; FELT: TASTES of all together. (Without DINERS one LAYING, 0.)");
    SpoonSet none = new SpoonSet();
    due("best(false)", none.best(false), 0);
    due("best(true)", none.best(true), 0);
    due("layings()", none.layings(), 1);
    int[] ways = {8, 56, 336, 1680, 6720, 20160};
    for (int d = 0; d < 6; d++) {
      none.diner(1);
      due("layings() of " + (d + 1), none.layings(), ways[d]);
    }
    SpoonSet both = eatsWith(withDiners(2, 3, 3), 4, 0);
    both.feel(1, 0, 5);
    both.feel(2, 0, 5);
    due("one spoon isn't two diners'", both.best(false), 10);

    says(PARTS, "THE BEST LAYING: most; of like ones the lowest (by DINERS from 0 on); how many LAYINGS are as good; the worst one.");
    due("laid(0)", both.laid(0), 0);
    due("laid(1)", both.laid(1), 1);
    due("laid(2)", both.laid(2), 4);
    // 4 to diner 1 or to diner 2, 7 * 6 for the two others
    due("layings()", both.layings(), 84);
    due("best(true)", both.best(true), 0);
    SpoonSet like = eatsWith(eatsWith(withDiners(2, 3), 7, 0), 3, 0);
    like.feel(1, 0, -5);
    due("best(false)", like.best(false), 0);
    due("laid(0)", like.laid(0), 0);
    due("laid(1)", like.laid(1), 1);
    due("layings(), 6 spoons to 1 and 7 to 0", like.layings(), 42);
    due("best(true)", like.best(true), -10);
    SpoonSet mouths = eatsWith(withDiners(2, 3), 0, 0);
    mouths.feel(1, 0, 9);
    due("the lowest spoon isn't the best", mouths.laid(0), 1);
    due("laid(1)", mouths.laid(1), 0);
    due("layings()", mouths.layings(), 7);
    SpoonSet last = eatsWith(withDiners(2, 3), 7, 0);
    last.feel(1, 0, 9);
    due("the last spoon", last.laid(1), 7);
    SpoonSet fewer = eatsWith(withDiners(2, 3), 4, 0, 1);
    fewer.feel(0, 1, 3);
    fewer.image();
    fewer.diner(1);
    fewer.feel(2, 0, 9);
    fewer.feel(2, 1, 9);
    due("with a third, who takes it", fewer.best(false), 27 + 9);
    fewer.back();
    due("without the third", fewer.best(false), 9);
    due("the worst without it", fewer.best(true), 0);
    SpoonSet lots = ruledBy("felt if spoon=0 then 99 else -99 end;", 1, 1, 1, 1, 1, 1);
    for (int s = 0; s < 8; s++) eatsWith(lots, s, 0, 1, 2, 3, 4);
    // diner 5 feels of 5 layers, each of the others of 4: 495 and -396 each; spoon 5 is laid to it else: 396 - 4 * 396 - 495
    due("best(false)", lots.best(false), 495 - 5 * 396);
    due("laid(5)", lots.laid(5), 0);
    due("best(true)", lots.best(true), -495 - 5 * 396);
  }

  private static void mouths() {
    says(PARTS, "TO BE RID of a mouth: how often THE SMITH must come to a SPOON till no LAYER is that mouth's (0: none is).");
    SpoonSet x = eatsWith(withDiners(1, 2, 3), 0, 0, 1, 0, 1, 0);
    due("its on top of 5", x.rid(0, 0), 5);
    due("its under the top", x.rid(0, 1), 4);
    due("none of its", x.rid(0, 2), 0);
    due("no layer at all", x.rid(1, 0), 0);
    eatsWith(x, 1, 1, 0, 0);
    due("its lowest alone", x.rid(1, 1), 1);

    says(PARTS, "ALONE: SPOONS that have LAYERS of one mouth and no other.");
    SpoonSet alone = withDiners(1, 2);
    due("no layers anywhere", alone.alone(0), 0);
    for (int s = 0; s < 8; s++) alone.eat(0, s);
    due("all", alone.alone(0), 255);
    eatsWith(alone, 0, 1);
    eatsWith(alone, 7, 1, 0);
    due("alone(0)", alone.alone(0), 126);
    due("alone(1)", alone.alone(1), 0);

    says(PARTS, "STRONGEST: the SPOON whose LAYERS of a mouth are so together; of like ones the lowest; none.");
    SpoonSet strong = withDiners(4, 9, 1);
    due("none", strong.strongest(0), NONE);
    eatsWith(strong, 7, 0);
    due("the last", strong.strongest(0), 7);
    eatsWith(strong, 5, 0);
    due("of like ones", strong.strongest(0), 5);
    eatsWith(strong, 7, 1, 0);
    due("two layers together", strong.strongest(0), 7);
    eatsWith(strong, 5, 1, 1);
    due("others' aren't counted", strong.strongest(0), 7);
    due("none of its", strong.strongest(2), NONE);
    eatsWith(strong, 0, 2);
    due("1 strong, on the first", strong.strongest(2), 0);

    says(PARTS, "THIN: how many LAYERS are so STRONG or less.");
    SpoonSet thin = eatsWith(withDiners(1, 9), 0, 0, 1);
    due("thin(0)", thin.thin(0), 0);
    due("thin(1)", thin.thin(1), 1);
    due("thin(8)", thin.thin(8), 1);
    due("thin(9)", thin.thin(9), 2);
    polishes(thin, 0, 4);
    due("thin(98)", thin.thin(98), 1);
    due("thin(99)", thin.thin(99), 2);
    for (int s = 0; s < 8; s++) thin.eat(0, s);
    due("on all spoons", thin.thin(1), 9);

    says(PARTS, "LASTS: behind how many DINNERS (beyond 9999, too), if nobody eats and all SPOONS fade, a LAYER is gone.");
    SpoonSet lasts = eatsWith(withDiners(3, 1, 9), 4, 0, 1, 2);
    lasts.card(0, 4);
    due("9 on top", lasts.lasts(4, 0), 9);
    due("1 under it", lasts.lasts(4, 1), 1);
    due("3 lowest, nobody eats", lasts.lasts(4, 2), 3);
    SpoonSet others = eatsWith(eatsWith(ruledBy("fades if spoon=6 then 1 else if top 6=0 then 9 else 0 end end;", 3, 9), 6, 0), 2, 1);
    due("spoon 6 fades, too; 2 is ahead of it", others.lasts(2, 0), 4);
    SpoonSet ends = eatsWith(eatsWith(ruledBy("fades if spoon=7 then 1 else if top 7=0 then 9 else 0 end end;", 3, 9), 7, 0), 0, 1);
    due("the last spoon", ends.lasts(7, 0), 3);
    due("the first spoon, the last being gone", ends.lasts(0, 0), 4);
    SpoonSet late = eatsWith(pass(withDiners(9), 9999), 0, 0);
    due("at 9999", late.lasts(0, 0), 9);
    late.by(read(late, "fades day-9999;"));
    // 0, 1, 2, 3 and 4 are 10 together
    due("days beyond 9999", late.lasts(0, 0), 5);
  }

  private static void cluesAndLinks() {
    says(PARTS, "CLUES (6 at most; told: so deep from the top the LAYER was a mouth's, or there was none).");
    SpoonSet clues = eatsWith(withDiners(1, 2), 3, 0, 1, 0, 1, 0);
    eatsWith(clues, 5, 0);
    for (int i = 1; i <= 6; i++) due("clue(0, 0)", clues.clue(0, 0), i);
    due("the 7th", clues.clue(0, 0), -2);
    due("which()", clues.which(), 40);
    clues.clue(NONE, NONE);
    due("the deepest there is", clues.clue(4, 0), 1);
    due("which()", clues.which(), 8);
    clues.clue(NONE, NONE);
    clues.clue(1, NONE);
    due("none so deep", clues.which(), 247);

    says(PARTS, "WHICH: SPOONS by which all CLUES are so.");
    clues.clue(NONE, NONE);
    due("no clues", clues.which(), 255);
    clues.clue(0, 0);
    clues.clue(1, 1);
    due("both", clues.which(), 8);
    clues.clue(2, 1);
    due("no spoon", clues.which(), 0);

    says(PARTS, "WHAT TO ASK: how deep (0 .. 4) one must ask whose mouth is there (or nobody's), so that of those SPOONS the most alike are fewest; of like ones the least deep; none (one SPOON or none fits).");
    due("no spoon fits", clues.ask(), NONE);
    clues.clue(NONE, NONE);
    clues.clue(4, 0);
    due("one spoon fits", clues.ask(), NONE);
    due("all alike", new SpoonSet().ask(), 0);
    SpoonSet ask = withDiners(1, 2, 3, 4);
    for (int s = 0; s < 8; s++) eatsWith(ask, s, s % 3, 3, 0, 1, 0);
    due("as deep as can be", ask.ask(), 4);
    ask.clue(4, 2);
    due("those alike", ask.which(), 36);
    due("of like ones", ask.ask(), 0);
    SpoonSet six = withDiners(1, 1, 1, 1, 1, 1);
    for (int s = 0; s < 8; s++) eatsWith(six, s, s % 4 + 1, Math.min(s, 5));
    due("5 thrice on top, no mouth thrice under it", six.ask(), 1);
    SpoonSet two = eatsWith(eatsWith(withDiners(1, 2), 0, 0, 1), 1, 1);
    two.clue(0, 1);
    due("two fit", two.which(), 3);
    due("one has nobody so deep", two.ask(), 1);

    says(PARTS, "A LINK: the fewest SPOONS by which two mouths hang together, each one shared by two mouths one behind the other (0 of one and itself); none.");
    SpoonSet link = withDiners(1, 1, 1, 1, 1, 1);
    due("of one and itself, without layers", link.link(5, 5), 0);
    due("none", link.link(0, 5), NONE);
    for (int s = 0; s < 5; s++) eatsWith(link, s, s, s + 1);
    for (int d = 0; d <= 5; d++) {
      due("link(0, " + d + ")", link.link(0, d), d);
      due("link(" + d + ", 5)", link.link(d, 5), 5 - d);
    }
    eatsWith(link, 7, 1, 4);
    due("a shorter way", link.link(0, 5), 3);
    link.smith(4);
    due("a spoon less", link.link(0, 5), NONE);
  }

  private static void thief() {
    says(PARTS, "TESTS (8 at most; told: of some DINERS together whether THE THIEF seems to be among them).");
    SpoonSet x = withDiners(1, 1, 1, 1, 1, 1);
    for (int i = 1; i <= 8; i++) due("test(63, true)", x.test(63, true), i);
    due("the 9th", x.test(63, true), -2);
    due("suspects(0)", x.suspects(0), 63);
    x.test(NONE, false);
    x.test(5, true);
    due("among them", x.suspects(0), 5);
    x.test(1, false);
    due("not among them", x.suspects(0), 4);

    says(PARTS, "SUSPECTS: DINERS (without TESTS all) each of whom, being THE THIEF, makes at most so many TESTS wrong.");
    SpoonSet none = new SpoonSet();
    due("without diners", none.suspects(8), 0);
    for (int i = 0; i < 4; i++) none.diner(1);
    due("without tests", none.suspects(0), 15);
    for (int i = 0; i < 4; i++) {
      none.test(1, true);
      none.test(3, true);
    }
    due("suspects(0)", none.suspects(0), 1);
    due("suspects(3)", none.suspects(3), 1);
    due("suspects(4)", none.suspects(4), 3);
    due("suspects(7)", none.suspects(7), 3);
    due("suspects(8)", none.suspects(8), 15);

    says(PARTS, "THE SUREST: whom the fewest would be wrong of; of like ones the lowest; none.");
    due("none", new SpoonSet().surest(), NONE);
    due("surest()", none.surest(), 0);
    due("without tests", withDiners(1, 1).surest(), 0);
    SpoonSet like = withDiners(1, 1, 1);
    like.test(1, false);
    due("of like ones", like.surest(), 1);
    like.test(4, true);
    due("the fewest", like.surest(), 2);
    like.test(NONE, true);
    for (int i = 1; i <= 8; i++) due("of no diner", like.test(0, true), i);
    due("all wrong of all", like.surest(), 0);
    due("suspects(7)", like.suspects(7), 0);
  }

  // ---- IV

  private static void houses() {
    says(PARTS, "HOUSES 0 .. 7: to which a spoon goes from each (told; at first to itself).");
    SpoonSet x = new SpoonSet();
    for (int h = 0; h < 8; h++) due("goes(" + h + ", 1)", x.goes(h, 1), h);
    due("house(0, 7)", x.house(0, 7), true);
    due("house(7, 0)", x.house(7, 0), true);
    due("goes(0, 1)", x.goes(0, 1), 7);
    due("goes(7, 1)", x.goes(7, 1), 0);
    due("house(0, 0)", x.house(0, 0), true);
    due("goes(0, 1)", x.goes(0, 1), 0);
    each("house(., 0)", h -> bit(x.house(h, 0)), 0, -1, 8);
    each("house(0, .)", h -> bit(x.house(0, h)), 0, -1, 8);

    says(PARTS, "WHEN TWO that start from two HOUSES are first in one at once (0: one HOUSE); never.");
    SpoonSet chain = new SpoonSet();
    due("one house", chain.meet(7, 7), 0);
    due("never", chain.meet(0, 7), NONE);
    for (int h = 0; h < 7; h++) chain.house(h, h + 1);
    for (int h = 0; h < 8; h++) due("meet(" + h + ", 7)", chain.meet(h, 7), 7 - h);
    due("the farther one", chain.meet(5, 6), 2);
    chain.house(7, 6);
    due("around one another", chain.meet(0, 1), NONE);
    due("meet(5, 7)", chain.meet(5, 7), 1);
    chain.house(7, 0);
    due("all around", chain.meet(0, 4), NONE);
    // rounds of 3 and of 5 houses
    int[] rounds = {1, 2, 0, 4, 5, 6, 7, 3};
    for (int h = 0; h < 8; h++) chain.house(h, rounds[h]);
    due("two rounds", chain.meet(0, 3), NONE);

    says(PARTS, "WHO COMES to a HOUSE: those from which it is come to (itself, too).");
    SpoonSet comes = new SpoonSet();
    for (int h = 0; h < 8; h++) due("comes(" + h + ")", comes.comes(h), 1 << h);
    for (int h = 0; h < 7; h++) comes.house(h, h + 1);
    for (int h = 0; h < 8; h++) due("comes(" + h + ")", comes.comes(h), (2 << h) - 1);
    comes.house(7, 0);
    for (int h = 0; h < 8; h++) due("all around", comes.comes(h), 255);
  }

  private static void gameAndLaw() {
    says(PARTS, "VALUES of SPOONS (told; at first 0): mine to the first, yours to the second hostess.");
    SpoonSet x = new SpoonSet();
    for (int s = 0; s < 8; s++) due("game at first", x.game(1 << s), 0);
    due("all at first", x.game(255), 0);
    x.value(0, 99, 0);
    x.value(7, 0, 99);
    due("mine", x.game(1), 99);
    due("yours isn't", x.game(128), 0);

    says(PARTS, "A GAME of a tray of SPOONS: by turns each picks one till none is left; each would have as much more than the other one (each by her own VALUES) as can be: how much more the first gets.");
    due("of no spoon", x.game(0), 0);
    due("of two", x.game(129), 0);
    x.value(0, 5, 9);
    x.value(7, 6, 1);
    due("what the other one would have counts", x.game(129), 4);
    SpoonSet hers = new SpoonSet();
    for (int s = 0; s < 8; s++) hers.value(s, 0, 99);
    due("hers", hers.game(255), -396);
    due("of 7, three hers", hers.game(127), -297);
    for (int s = 0; s < 8; s++) hers.value(s, 99, 0);
    due("the first's", hers.game(255), 396);
    due("of 7, four the first's", hers.game(127), 396);

    says(PARTS, "A PICK first for it: the lowest.");
    SpoonSet pick = new SpoonSet();
    for (int s = 0; s < 8; s++) due("pick of one", pick.pick(1 << s), s);
    due("all alike", pick.pick(255), 0);
    due("of those on the tray", pick.pick(240), 4);
    pick.value(7, 1, 0);
    due("the last", pick.pick(255), 7);
    pick.value(3, 0, 1);
    due("of like ones", pick.pick(136), 3);
    pick.value(7, 2, 0);
    due("the better one", pick.pick(136), 7);

    says(PARTS, "WHOSE LAW (told: SAID, 8 at most: a DINER, a SPOON, what it TASTES, -999 .. 999): TEXTS (bits) by whose felt all TASTE so (as now).");
    SpoonSet law = eatsWith(withDiners(1, 2, 3, 4, 5, 6), 7, 0, 1, 2, 3, 4);
    due("no text", law.whose(), 0);
    for (String text : new String[] {"felt 100;", "felt -100;", "felt 0;", "fades 1;"}) read(law, text);
    due("nothing said", law.whose(), 15);
    due("said(5, 7, 495)", law.said(5, 7, 495), 1);
    due("the most that is felt", law.whose(), 1);
    law.said(NONE, 0, 0);
    law.said(5, 7, -495);
    due("the least", law.whose(), 2);
    law.said(NONE, 0, 0);
    law.said(5, 7, 0);
    due("nothing, and without felt", law.whose(), 12);
    law.feel(5, 4, 1);
    due("as now", law.whose(), 4);
    law.said(5, 6, 0);
    due("of a spoon without layers", law.whose(), 4);
    law.said(0, 7, 396);
    due("all, not some", law.whose(), 0);
    due("said(0, 0, 999)", law.said(0, 0, 999), 4);
    due("said(0, 0, -999)", law.said(0, 0, -999), 5);
    each("said(0, 0, .)", t -> law.said(0, 0, t), -2, 1000, -1000);
    for (int i = 6; i <= 8; i++) due("said(5, 7, 0)", law.said(5, 7, 0), i);
    due("the 9th", law.said(5, 7, 0), -2);
  }

  private static void standingOut() {
    says(PARTS, "GLADDEST: the SPOON whose LAYERS are STRONGEST together; of like ones the lowest; none (all without LAYERS).");
    SpoonSet x = withDiners(1, 2, 3);
    due("none", x.gladdest(), NONE);
    eatsWith(x, 7, 2);
    due("the last", x.gladdest(), 7);
    eatsWith(x, 4, 0, 1);
    due("of like ones, together", x.gladdest(), 4);
    x.day(1);
    x.day(2);
    due("none again", x.gladdest(), NONE);
    eatsWith(x, 0, 0);
    due("1 strong, on the first", x.gladdest(), 0);

    says(PARTS, "LOVED by a DINER: of whom it FEELS most (above 0); of like ones the lowest; none.");
    SpoonSet loved = withDiners(1, 1, 1, 1, 1, 1);
    due("none at first", loved.loved(0), NONE);
    for (int m = 1; m < 6; m++) loved.feel(0, m, -1);
    due("none above 0", loved.loved(0), NONE);
    loved.feel(0, 5, 1);
    due("1 is above 0", loved.loved(0), 5);
    loved.feel(0, 3, 1);
    due("of like ones", loved.loved(0), 3);
    loved.feel(0, 4, 2);
    due("most", loved.loved(0), 4);
    due("not of whom it is felt", loved.loved(4), NONE);

    says(PARTS, "THE FEUD: two who FEEL least of one another, what either FEELS of the other together (below 0); of like ones the lowest one, then the lowest other.");
    feudIs(withDiners(1), NONE, NONE);
    SpoonSet feud = withDiners(1, 1, 1, 1, 1, 1);
    feudIs(feud, NONE, NONE);
    feud.feel(5, 4, -9);
    feud.feel(4, 5, 9);
    feudIs(feud, NONE, NONE);
    feud.feel(4, 5, 8);
    feudIs(feud, 4, 5);
    feud.feel(3, 5, -1);
    feudIs(feud, 3, 5);
    feud.feel(5, 1, -1);
    feudIs(feud, 1, 5);
    feud.feel(2, 1, -1);
    feudIs(feud, 1, 2);
    feud.feel(4, 5, 7);
    feudIs(feud, 4, 5);
    feud.feel(4, 5, -9);
    feud.feel(0, 1, -9);
    feud.feel(1, 0, -8);
    feudIs(feud, 4, 5);
    feud.feel(1, 0, -9);
    feudIs(feud, 0, 1);

    says(PARTS, "ELDEST: whose LAYER is the lowest of most SPOONS; likewise; none.");
    SpoonSet eldest = withDiners(1, 1, 1, 1, 1, 1);
    due("none", eldest.eldest(), NONE);
    eatsWith(eldest, 3, 5, 0);
    due("the last diner", eldest.eldest(), 5);
    eatsWith(eldest, 4, 4, 0);
    due("of like ones", eldest.eldest(), 4);
    eatsWith(eldest, 5, 5, 0, 1, 2, 3);
    due("of most spoons", eldest.eldest(), 5);
    eatsWith(eldest, 5, 4);
    due("0 is the lowest of one then", eldest.eldest(), 0);
    SpoonSet ends = eatsWith(withDiners(1, 1), 0, 1);
    due("on the first spoon alone", ends.eldest(), 1);
    eatsWith(ends, 4, 0);
    due("of like ones", ends.eldest(), 0);
    eatsWith(ends, 7, 1);
    due("on the first and the last", ends.eldest(), 1);

    says(PARTS, "BY THE BOOK: how many lines there are of a mouth.");
    SpoonSet book = withDiners(1, 2, 3);
    due("none", book.ledger(0), 0);
    eatsWith(book, 0, 0, 1);
    book.smith(0);
    due("ledger(0)", book.ledger(0), 1);
    due("whose is on top behind the smith", book.ledger(1), 2);
    book.smith(0);
    due("nobody's is nobody's", book.ledger(0) + book.ledger(1) + book.ledger(2), 3);
    for (int i = 0; i < 30; i++) book.eat(2, 4);
    due("the latest 25 alone", book.ledger(2), 25);
    due("the others' are gone", book.ledger(0) + book.ledger(1), 0);
  }

  private static void feudIs(SpoonSet x, int one, int other) {
    due("feud(false)", x.feud(false), one);
    due("feud(true)", x.feud(true), other);
  }

  // ---- V

  /** Six diners who give 1 to 6, spoons with a layer of 2 under one of 0. */
  private static SpoonSet forYears() {
    SpoonSet x = withDiners(1, 2, 3, 4, 5, 6);
    for (int s = 0; s < 8; s++) eatsWith(x, s, 2, 0);
    return x;
  }

  private static void yearsAndImages() {
    says(PARTS, "X is SEED (0 .. 9999) * 2 + 461; n times (1 .. 40): x is X, X anew (as in a draw):");
    for (int seed : new int[] {0, 1, 9998, 9999}) {
      SpoonSet x = new SpoonSet();
      x.years(seed, 1);
      due("is(1) by " + seed, x.is(1), nextX(seed * 2 + 461));
      x.years(seed, 40);
      int last = seed * 2 + 461;
      for (int i = 0; i < 40; i++) last = nextX(last);
      due("is(1) by " + seed, x.is(1), last);
    }

    says(PARTS, "x mod 6: 0, 1 DINER x / 6 mod 6 has EATEN with SPOON x mod 8; 2 THE SMITH comes to SPOON x / 6 mod 8, if x mod 4 is 0; 3 it is POLISHED, if x mod 4 is 1 (each if it can be; else nothing); 4, 5 a DINNER (if it can pass).");
    int[] seen = new int[6];
    for (int seed = 0; seed < 300; seed++) {
      int first = seed * 2 + 461;
      seen[first % 6]++;
      if (seed < 60) drawIs(forYears(), seed, first, 1);
      // no first x is even: those come second
      int second = nextX(first);
      if (second % 2 == 0) {
        seen[second % 6]++;
        drawIs(forYears(), seed, second, 2);
      }
    }
    for (int kind = 0; kind < 6; kind++) due("draws of " + kind + " were seen", seen[kind] > 0, true);
    SpoonSet nobody = new SpoonSet();
    for (int seed = 0; seed < 40; seed++) nobody.years(seed, 40);
    due("without diners nobody eats", nobody.is(3), 255);
    due("nothing is written", nobody.book(NONE, 0), 0);
    SpoonSet late = pass(withDiners(1, 1, 1), 9998);
    due("years(0, 1) is the last dinner", late.years(0, 1), 9999);
    due("years(0, 40), none can pass", late.years(0, 40), 9999);
    due("years(9999, 40), none can pass", late.years(9999, 40), 9999);
    due("the dinners' draws aren't made", late.is(1), fortiethOf(9999));

    says(PARTS, "It is one STEP: DINNER.");
    SpoonSet one = eatsWith(withDiners(1, 2, 3, 4, 5, 6), 0, 0);
    int[] ahead = looks(one);
    due("years(7, 40)", one.years(7, 40), one.is(0));
    due("about(3)", one.about(3), 2);
    due("undo()", one.undo(), 1);
    same("taken back", ahead, looks(one));
    SpoonSet idle = new SpoonSet();
    // 463 is 1 by 6: there is no diner that could eat
    due("years(1, 1), in which nothing is done", idle.years(1, 1), 0);
    due("about(3)", idle.about(3), 1);

    says(PARTS, "AN IMAGE: all as it is, but the tape and the latest FAULT. BACK: all is so again.");
    SpoonSet x = forImage();
    SpoonSet twin = forImage();
    x.image();
    changeAll(x);
    due("about(1)", x.about(1), 3);
    x.back();
    same("all is so again", looks(twin), looks(x));
    for (int i = 27; i >= 0; i--) {
      due("undo() behind back()", x.undo(), i);
      twin.undo();
      due("taken back alike, MOOD", x.is(2), twin.is(2));
      due("taken back alike, how strong all is", x.is(4), twin.is(4));
    }
    due("undo()", x.undo(), NONE);
    due("as ahead of the 28 steps that stood of 34", x.book(NONE, 0), 6);
    read(x, "smith 8;");
    onTape(x, "smith");
    x.back();
    due("the latest fault stays", x.fault(0), 2);
    due("and its place", x.fault(1), 6);
    due("the tape stays", x.about(7), 5);
    due("about(1)", x.about(1), 1);
  }

  /** An object with something of each kind, whose steps have gone around. */
  private static SpoonSet forImage() {
    SpoonSet x = eatsWith(withDiners(3, 4, 5), 0, 0, 1, 2);
    for (int i = 0; i < 33; i++) x.eat(i % 3, i % 8);
    x.undo();
    x.undo();
    x.feel(0, 1, 5);
    x.card(1, 4);
    x.by(read(x, "fades 2;"));
    x.clue(0, 1);
    x.test(3, true);
    x.said(0, 0, 7);
    for (int h = 0; h < 8; h++) x.house(h, 7 - h);
    for (int s = 0; s < 8; s++) x.value(s, 5 + s, 40 - 3 * s);
    return x;
  }

  private static void changeAll(SpoonSet x) {
    x.diner(6);
    x.feel(0, 1, -5);
    x.card(1, NONE);
    x.by(read(x, "fades 3;"));
    read(x, "fades 3;felt 1;");
    for (int i = 0; i < 44; i++) x.polish(i % 8);
    x.years(3, 40);
    x.clue(NONE, 0);
    x.clue(1, 0);
    x.test(NONE, true);
    x.test(4, true);
    x.said(NONE, 0, 0);
    x.said(1, 1, 3);
    for (int h = 0; h < 8; h++) x.house(h, h);
    for (int s = 0; s < 8; s++) x.value(s, 50, 60);
  }

  private static int fortiethOf(int seed) {
    int x = seed * 2 + 461;
    for (int i = 0; i < 40; i++) x = nextX(x);
    return x;
  }

  /** What the n-th draw of a seed does, being x; n is 1 or 2. */
  private static void drawIs(SpoonSet set, int seed, int x, int n) {
    String what = " by x " + x;
    SpoonSet ahead = forYears();
    if (n == 2) ahead.years(seed, 1);
    set.years(seed, n);
    int spoon = x / 6 % 8;
    int strong = set.is(4) - ahead.is(4);
    int dinners = set.is(0) - ahead.is(0);
    int lines = set.book(NONE, 0) - ahead.book(NONE, 0);
    int last = set.book(NONE, 0) - 1;
    switch (x % 6) {
      case 0: case 1:
        due("lines" + what, lines, 1);
        due("eaten" + what, set.book(last, 1), 0);
        due("whose" + what, set.book(last, 3), x / 6 % 6);
        due("the spoon" + what, set.book(last, 2), x % 8);
        due("strong" + what, strong, x / 6 % 6 + 1);
        break;
      case 2:
        boolean comes = x % 4 == 0 && ahead.layers(spoon) > 0;
        due("the smith" + what, lines, bit(comes));
        if (comes) due("the smith's line" + what, set.book(last, 1) * 10 + set.book(last, 2), 10 + spoon);
        due("a layer less" + what, set.layers(spoon), ahead.layers(spoon) - bit(comes));
        break;
      case 3:
        boolean polished = x % 4 == 1;
        due("polished" + what, lines, bit(polished));
        if (polished) due("the line" + what, set.book(last, 1) * 10 + set.book(last, 2), 20 + spoon);
        due("twice as strong" + what, strong, polished ? 1 : 0);
        break;
      default:
        due("a dinner" + what, dinners, 1);
        due("no line" + what, lines, 0);
        break;
    }
    if (x % 6 < 4) due("no dinner" + what, dinners, 0);
  }

  // ---- the promises

  private static void promisesOfTelling() {
    says(1, "Eight new spoons; THE IMAGE is this.");
    SpoonSet x = eatsWith(withDiners(4, 4), 7, 0);
    x.feel(0, 1, 2);
    x.card(0, 1);
    x.by(read(x, "fades 3;"));
    x.day(1);
    x.clue(0, 0);
    x.test(1, true);
    x.said(0, 0, 0);
    x.house(0, 1);
    x.value(0, 1, 1);
    x.years(1, 40);
    due("back()", x.back(), 0);
    SpoonSet fresh = new SpoonSet();
    read(fresh, "");
    fresh.back();
    same("as new", looks(fresh), looks(x));
    due("spoons without layers", x.is(3), 255);
    due("undo()", x.undo(), NONE);

    says(2, "NONE for others (1 .. 9), or if there are 6.");
    SpoonSet diner = new SpoonSet();
    each("diner", diner::diner, NONE, 0, -1, 10, LOW, HIGH);
    due("none is there", diner.about(0), 0);
    for (int d = 0; d < 6; d++) due("diner", diner.diner(d % 2 == 0 ? 1 : 9), d);
    each("the 7th", diner::diner, NONE, 1, 5, 9);
    due("six", diner.about(0), 6);

    says(3, "False for others (unlike ones; -9 .. 9).");
    SpoonSet feel = withDiners(1, 1, 1);
    feel.feel(0, 1, 3);
    int[] ahead = looks(feel);
    each("feel(., 1, 2)", d -> bit(feel.feel(d, 1, 2)), 0, -1, 3, 6, LOW, HIGH);
    each("feel(0, ., 2)", m -> bit(feel.feel(0, m, 2)), 0, -1, 3, 6, LOW, HIGH);
    each("feel(., ., 2) of itself", d -> bit(feel.feel(d, d, 2)), 0, 0, 1, 2);
    each("feel(0, 1, .)", f -> bit(feel.feel(0, 1, f)), 0, -10, 10, LOW, HIGH);
    same("nothing is told", ahead, looks(feel));
    each("feel(0, 1, .)", f -> bit(feel.feel(0, 1, f)), 1, -9, 0, 9);

    says(4, "False for others (0 .. 7; NONE: no CARD).");
    SpoonSet card = withDiners(1, 1, 1);
    card.card(0, 3);
    ahead = looks(card);
    each("card(., 0)", d -> bit(card.card(d, 0)), 0, -1, 3, 6, LOW, HIGH);
    each("card(0, .)", s -> bit(card.card(0, s)), 0, -2, 8, LOW, HIGH);
    each("card(3, .)", s -> bit(card.card(3, s)), 0, 0, NONE);
    same("nothing is told", ahead, looks(card));
    each("card(0, .)", s -> bit(card.card(0, s)), 1, 0, 7, NONE);
    due("no card", card.of(0, 1), NONE);
    card.day(5);
    due("and no draw", card.is(1), 461);
  }

  private static void promisesOfTexts() {
    says(5, "Twenty bytes come behind the tape, the highest of a first: how many it has.");
    SpoonSet feed = new SpoonSet();
    due("feed \"diner 1;diner 2;    \"", feed.feed(0x64696e65, 0x7220313b, 0x64696e65, 0x7220323b, 0x20202020), 20);
    due("feed \"diner 3;        felt\"", feed.feed(0x64696e65, 0x7220333b, 0x20202020, 0x20202020, 0x66656c74), 40);
    feed.end(36);
    due("text()", feed.text(), 0);
    feed.played(0);
    for (int d = 0; d < 3; d++) due("of(" + d + ", 0)", feed.of(d, 0), d + 1);
    due("a number below 0", feed.feed(0x20202020, 0x20202020, 0x20202020, 0x20202020, 0x202020ff), 20);
    feed.text();
    due("the lowest byte is the last", feed.fault(1), 19);
    feed.feed(0x80202020, 0, 0, 0, 0);
    feed.text();
    due("the highest byte is the first", feed.fault(1), 0);

    says(5, "NONE, and none come, if there would be more than 300.");
    SpoonSet full = new SpoonSet();
    for (int i = 1; i <= 15; i++) due("feed", full.feed(0x20202020, 0x20202020, 0x20202020, 0x20202020, 0x20202020), 20 * i);
    due("to 320", full.feed(-1, -1, -1, -1, -1), NONE);
    due("about(7)", full.about(7), 300);
    full.end(281);
    due("to 301", full.feed(-1, -1, -1, -1, -1), NONE);
    due("about(7)", full.about(7), 281);
    due("none came", full.text(), 0);
    for (int i = 1; i <= 15; i++) full.feed(0, 0, 0, 0, 0);
    full.end(280);
    due("to 300", full.feed(0, 0, 0, 0, 0), 300);

    says(6, "NONE, and nothing is done, if it has not so many, or n is below 0.");
    SpoonSet end = new SpoonSet();
    each("end of an empty tape", end::end, NONE, 1, -1, LOW, HIGH);
    due("end(0) of an empty tape", end.end(0), 0);
    end.feed(0x736d6974, 0x6820303b, 0, 0, 0);
    each("end of 20", end::end, NONE, 21, 300, -1, LOW, HIGH);
    due("about(7)", end.about(7), 20);
    due("end(20)", end.end(20), 20);
    due("end(8)", end.end(8), 8);
    due("end(9)", end.end(9), NONE);
    due("\"smith 0;\"", end.text(), 0);

    says(6, "The tape has its first n bytes alone: n.");
    onTape(end, "smith 0;smith 9;");
    due("end(8)", end.end(8), 8);
    due("the first", end.text(), 1);
    for (String cut : new String[] {"smith 0|1;", "felt if 1<|=1 then 1 else 2 end;", "felt 1|;", "smith|y", "smith 0|;"}) {
      onTape(end, cut.replace("|", ""));
      int length = cut.indexOf('|');
      due("end of " + cut, end.end(length), length);
      due("text() of " + cut, end.text(), NONE);
      due("its fault", end.fault(0), 1);
      due("its place", end.fault(1), length);
    }
    onTape(end, "smith 0;");
    due("end(0)", end.end(0), 0);
    due("of no byte", end.text(), 2);
    due("played(2)", end.played(2), NONE);

    says(7, "The tape (empty then) is a TEXT: its number.");
    SpoonSet text = new SpoonSet();
    for (int t = 0; t < 4; t++) {
      due("text()", read(text, "smith 0;"), t);
      due("the tape is empty", text.about(7), 0);
      due("about(1)", text.about(1), t + 1);
    }

    says(7, "NONE: it has a FAULT; or (the tape stays) there are 4.");
    onTape(text, "smith 9;");
    due("text() of four", text.text(), NONE);
    due("the tape stays", text.about(7), 8);
    due("about(1)", text.about(1), 4);
    due("nothing was read", text.fault(0), 0);
    SpoonSet faulty = new SpoonSet();
    due("with a fault", read(faulty, "smith 9;"), NONE);
    due("the tape is empty", faulty.about(7), 0);
    due("about(1)", faulty.about(1), 0);
    due("by(0)", faulty.by(0), false);
    due("played(0)", faulty.played(0), -2);
    due("the next", read(faulty, "smith 0;"), 0);
    SpoonSet nothing = new SpoonSet();
    read(nothing, "fades 9;felt 5;diner 1;smith 9;");
    due("the next", read(nothing, "diner 2;diner 3;"), 0);
    due("played(0)", nothing.played(0), NONE);
    due("nothing of the faulty one is played", nothing.about(0), 2);
    due("of(0, 0)", nothing.of(0, 0), 2);
    eatsWith(nothing, 0, 0);
    nothing.feel(1, 0, 4);
    nothing.by(0);
    due("nor rules", nothing.layer(0, 0, 2), 1);
    due("nor is felt", nothing.tastes(1, 0), 8);

    says(8, "Of the latest text that was read: 0 its FAULT (0 without), 1 its place (NONE without). NONE for others, and ahead of any.");
    SpoonSet fault = new SpoonSet();
    each("fault ahead of any", fault::fault, NONE, 0, 1, 2, -1);
    onTape(fault, "smith 9;");
    each("fault ahead of text()", fault::fault, NONE, 0, 1);
    fault.text();
    due("fault(0)", fault.fault(0), 2);
    due("fault(1)", fault.fault(1), 6);
    each("fault", fault::fault, NONE, -1, 2, LOW, HIGH);
    read(fault, "");
    due("fault(0) without", fault.fault(0), 0);
    due("fault(1) without", fault.fault(1), NONE);
    each("fault", fault::fault, NONE, -1, 2, LOW, HIGH);
    read(fault, "foo");
    due("the latest", fault.fault(0), 1);
    due("at the first byte", fault.fault(1), 0);

    says(9, "THE TEXT (NONE: none): true. False for others.");
    SpoonSet by = new SpoonSet();
    due("by(NONE) without texts", by.by(NONE), true);
    each("by", t -> bit(by.by(t)), 0, 0, -2, LOW, HIGH);
    read(by, "");
    read(by, "");
    due("by(1)", by.by(1), true);
    each("by", t -> bit(by.by(t)), 0, 2, 3, 4, -2, LOW, HIGH);
    due("about(2)", by.about(2), 1);
    due("by(NONE)", by.by(NONE), true);
    due("about(2)", by.about(2), NONE);
  }

  private static void promisesOfSteps() {
    SpoonSet x = eatsWith(withDiners(3, 4, 5), 0, 0, 1);
    read(x, "diner 1;");

    says(10, "EATEN: what is FELT. -10000 for others.");
    int[] ahead = looks(x);
    each("eat(., 0)", d -> x.eat(d, 0), -10000, -1, 3, 6, LOW, HIGH);
    each("eat(0, .)", s -> x.eat(0, s), -10000, -1, 8, LOW, HIGH);
    same("nothing is done", ahead, looks(x));
    due("without diners", new SpoonSet().eat(0, 0), -10000);

    says(11, "NONE, if there is none, and for others.");
    each("smith", x::smith, NONE, 1, 7, -1, 8, LOW, HIGH);
    same("nothing is done", ahead, looks(x));

    says(12, "NONE, if there is none, and for others.");
    each("polish", x::polish, NONE, 1, 7, -1, 8, LOW, HIGH);
    same("nothing is done", ahead, looks(x));

    says(13, "DINNERS pass (1 .. 60): how many eat in them. NONE for others, or beyond 9999 (nothing is done then).");
    each("day", x::day, NONE, 0, -1, 61, LOW, HIGH);
    same("nothing is done", ahead, looks(x));
    due("day(1)", x.day(1), 0);
    due("day(60)", x.day(60), 0);
    due("is(0)", x.is(0), 61);
    SpoonSet late = pass(withDiners(9), 9940);
    late.card(0, 0);
    ahead = looks(late);
    due("day(60) to 10000", late.day(60), NONE);
    same("nothing is done", ahead, looks(late));
    due("day(59) to 9999", late.day(59) > 30, true);
    due("is(0)", late.is(0), 9999);
    ahead = looks(late);
    each("day", late::day, NONE, 1, 2, 60);
    same("nothing is done", ahead, looks(late));

    says(14, "PLAYED by a TEXT: NONE: all is done; else the number of the CLAUSE that can't be. -2 for others.");
    SpoonSet play = withDiners(1, 1, 1);
    due("without texts", play.played(0), -2);
    read(play, "polish 0;");
    read(play, "eat 0 with 0;polish 0;");
    ahead = looks(play);
    each("played", play::played, -2, -1, 2, 3, 4, LOW, HIGH);
    due("the first can't be", play.played(0), 0);
    same("nothing is done", ahead, looks(play));
    due("all is done", play.played(1), NONE);
    due("now it can be", play.played(0), NONE);

    says(15, "YEARS: DINNER. NONE for others.");
    SpoonSet years = withDiners(1, 1, 1);
    ahead = looks(years);
    each("years(., 1)", s -> years.years(s, 1), NONE, -1, 10000, LOW, HIGH);
    each("years(0, .)", n -> years.years(0, n), NONE, 0, -1, 41, LOW, HIGH);
    same("nothing is done", ahead, looks(years));
    due("years(0, 1)", years.years(0, 1), 1);
    due("years(9999, 40)", years.years(9999, 40), years.is(0));
    due("years(0, 40)", years.years(0, 40), years.is(0));
    due("years(9999, 1)", years.years(9999, 1), years.is(0));
    due("four steps", years.about(3), 4);

    says(16, "The latest STEP is taken back: how many can be yet. NONE: there is none.");
    SpoonSet undo = withDiners(1, 1, 1);
    due("undo()", undo.undo(), NONE);
    undo.eat(0, 0);
    undo.eat(1, 0);
    due("undo()", undo.undo(), 1);
    due("undo()", undo.undo(), 0);
    ahead = looks(undo);
    due("undo()", undo.undo(), NONE);
    same("nothing is done", ahead, looks(undo));
    due("is(3)", undo.is(3), 255);
  }

  private static void promisesOfLooks() {
    SpoonSet x = eatsWith(withDiners(3, 4, 5), 0, 0, 1, 0);

    says(17, "Of a DINER: 0 what it GIVES, 1 its CARD (NONE: none), 2 its LAYERS in all SPOONS, 3 how STRONG they are together. -2 for others.");
    due("of(0, 0)", x.of(0, 0), 3);
    due("of(0, 1)", x.of(0, 1), NONE);
    due("of(0, 2)", x.of(0, 2), 2);
    due("of(0, 3)", x.of(0, 3), 6);
    SpoonSet everywhere = withDiners(2);
    for (int s = 0; s < 8; s++) everywhere.eat(0, s);
    due("of(0, 2) on all spoons", everywhere.of(0, 2), 8);
    due("of(0, 3) on all spoons", everywhere.of(0, 3), 16);
    due("of(2, 2), none", x.of(2, 2), 0);
    due("of(2, 3), none", x.of(2, 3), 0);
    for (int what = 0; what <= 3; what++) {
      int asked = what;
      each("of(., " + what + ")", d -> x.of(d, asked), -2, -1, 3, 6, LOW, HIGH);
    }
    each("of(0, .)", w -> x.of(0, w), -2, -1, 4, LOW, HIGH);

    says(18, "What a DINER FEELS of one. -100 for others.");
    each("feels(., 0)", d -> x.feels(d, 0), -100, -1, 3, 6, LOW, HIGH);
    each("feels(0, .)", m -> x.feels(0, m), -100, -1, 3, 6, LOW, HIGH);
    due("feels(2, 0)", x.feels(2, 0), 0);

    says(19, "How many LAYERS. NONE for others.");
    each("layers", x::layers, NONE, -1, 8, LOW, HIGH);
    due("layers(0)", x.layers(0), 3);
    due("layers(7)", x.layers(7), 0);

    says(20, "Of the i-th LAYER from the top (from 0): 0 whose it is, 1 how STRONG, 2 fades now. NONE: there is none such, and for others.");
    for (int what = 0; what <= 2; what++) {
      int asked = what;
      each("layer(0, ., " + what + ")", i -> x.layer(0, i, asked), NONE, -1, 3, 5, LOW, HIGH);
      each("layer(7, ., " + what + ")", i -> x.layer(7, i, asked), NONE, -1, 0, 1);
      each("layer(., 0, " + what + ")", s -> x.layer(s, 0, asked), NONE, -1, 8, LOW, HIGH);
    }
    each("layer(0, 0, .)", w -> x.layer(0, 0, w), NONE, -1, 3, LOW, HIGH);
    due("layer(0, 0, 0)", x.layer(0, 0, 0), 0);
    due("layer(0, 1, 0)", x.layer(0, 1, 0), 1);
    due("layer(0, 2, 1)", x.layer(0, 2, 1), 3);
    due("layer(0, 2, 2)", x.layer(0, 2, 2), 1);

    says(21, "0 DINNER, 1 X, 2 MOOD, 3 SPOONS without LAYERS (bits), 4 how STRONG all is. -100000 for others.");
    each("is", x::is, -100000, -1, 5, LOW, HIGH);
    due("is(3)", x.is(3), 254);
    due("is(4)", x.is(4), 10);
    SpoonSet full = withDiners(9, 9, 9, 9, 9, 9);
    due("is(3) of none", full.is(3), 255);
    due("is(4) of none", full.is(4), 0);
    for (int s = 0; s < 8; s++) {
      for (int d = 0; d < 5; d++) {
        full.eat(d, s);
        polishes(full, s, 4);
      }
    }
    due("is(3) of all", full.is(3), 0);
    due("is(4), 40 layers of 99", full.is(4), 3960);
    due("of(0, 3)", full.of(0, 3), 792);

    says(22, "BOOK: how many (i NONE); the i-th, from the eldest on: 0 DINNER, 1 what (0 eaten, 1 by the smith, 2 polished), 2 the SPOON, 3 whose LAYER. -2 if there is none such, and for others.");
    due("an empty book", withDiners(1).book(NONE, 0), 0);
    due("no line", withDiners(1).book(0, 0), -2);
    due("book(NONE, 0)", x.book(NONE, 0), 3);
    for (int what = 0; what <= 3; what++) {
      int asked = what;
      each("book(., " + what + ")", i -> x.book(i, asked), -2, -2, 3, 24, 25, LOW, HIGH);
    }
    each("book(0, .)", w -> x.book(0, w), -2, -1, 4, LOW, HIGH);
    due("the eldest", x.book(0, 3), 0);
    due("the next", x.book(1, 3), 1);
    SpoonSet lines = pass(withDiners(8), 9);
    lines.eat(0, 7);
    lines.polish(7);
    lines.smith(7);
    int[][] cells = {{9, 0, 7, 0}, {9, 2, 7, 0}, {9, 1, 7, NONE}};
    for (int i = 0; i < 3; i++) for (int w = 0; w < 4; w++) due("book(" + i + ", " + w + ")", lines.book(i, w), cells[i][w]);
  }

  private static void promisesOfWhatComes() {
    SpoonSet x = eatsWith(withDiners(3, 4, 5), 0, 0, 1, 0);

    says(23, "FORETOLD: how STRONG a SPOON is. NONE for others.");
    each("foretold(., 0)", n -> x.foretold(n, 0), NONE, 0, -1, 61, LOW, HIGH);
    each("foretold(1, .)", s -> x.foretold(1, s), NONE, -1, 8, LOW, HIGH);
    due("foretold(1, 0)", x.foretold(1, 0), 7);
    due("foretold(1, 7)", x.foretold(1, 7), 0);
    due("foretold(60, 0)", x.foretold(60, 0), 0);

    says(24, "TASTES: what would be FELT. -10000 for others.");
    each("tastes(., 0)", d -> x.tastes(d, 0), -10000, -1, 3, 6, LOW, HIGH);
    each("tastes(0, .)", s -> x.tastes(0, s), -10000, -1, 8, LOW, HIGH);
    due("tastes(0, 7)", x.tastes(0, 7), 0);

    says(26, "THE BEST LAYING: the SPOON of a DINER. NONE for others.");
    each("laid", x::laid, NONE, -1, 3, 6, LOW, HIGH);
    due("laid(2)", x.laid(2), 2);
    due("without diners", new SpoonSet().laid(0), NONE);

    says(28, "TO BE RID: how many. NONE for others.");
    each("rid(., 0)", s -> x.rid(s, 0), NONE, -1, 8, LOW, HIGH);
    each("rid(0, .)", m -> x.rid(0, m), NONE, -1, 3, 6, LOW, HIGH);
    due("rid(7, 2)", x.rid(7, 2), 0);

    says(29, "ALONE: SPOONS (bits). NONE for others.");
    each("alone", x::alone, NONE, -1, 3, 6, LOW, HIGH);
    due("alone(2)", x.alone(2), 0);

    says(30, "NONE: none, and for others.");
    each("strongest", x::strongest, NONE, 2, -1, 3, 6, LOW, HIGH);
    due("strongest(1)", x.strongest(1), 0);

    says(31, "NONE for others (0 .. 99).");
    each("thin", x::thin, NONE, -1, 100, LOW, HIGH);
    due("thin(0)", x.thin(0), 0);
    due("thin(99)", x.thin(99), 3);

    says(32, "NONE: not by 60, there is none such, and for others.");
    each("lasts(0, .)", i -> x.lasts(0, i), NONE, -1, 3, 5, LOW, HIGH);
    each("lasts(., 0)", s -> x.lasts(s, 0), NONE, 7, -1, 8, LOW, HIGH);
    SpoonSet lasts = withDiners(6, 6);
    for (int i = 0; i < 10; i++) lasts.eat(0, 3);
    due("60 strong", lasts.lasts(3, 0), 60);
    for (int i = 0; i < 10; i++) lasts.eat(1, 4);
    lasts.day(6);
    for (int i = 0; i < 2; i++) lasts.eat(0, 3);
    for (int i = 0; i < 1; i++) lasts.eat(1, 4);
    due("66 strong", lasts.lasts(3, 0), NONE);
    due("60 strong again", lasts.lasts(4, 0), 60);
    lasts.day(5);
    due("61 strong", lasts.layer(3, 0, 1), 61);
    due("not by 60", lasts.lasts(3, 0), NONE);
    lasts.day(1);
    due("by 60", lasts.lasts(3, 0), 60);
    lasts.by(read(lasts, "fades 0;"));
    due("never", lasts.lasts(3, 0), NONE);
  }

  private static void promisesOfNotes() {
    SpoonSet x = eatsWith(withDiners(3, 4, 5), 0, 0, 1, 0);

    says(33, "A CLUE: how many there are (deep NONE: none any more). -2 for others (0 .. 4; a DINER, NONE: nobody), or if there are 6.");
    due("none any more of none", x.clue(NONE, 0), 0);
    each("clue(., 0)", d -> x.clue(d, 0), -2, -2, 5, LOW, HIGH);
    each("clue(0, .)", m -> x.clue(0, m), -2, -2, 3, 6, LOW, HIGH);
    due("about(4)", x.about(4), 0);
    due("clue(0, 2)", x.clue(0, 2), 1);
    due("clue(4, NONE)", x.clue(4, NONE), 2);
    for (int i = 3; i <= 6; i++) due("clue(1, 1)", x.clue(1, 1), i);
    each("the 7th", d -> x.clue(d, 0), -2, 0, 4);
    due("about(4)", x.about(4), 6);
    due("none any more", x.clue(NONE, LOW), 0);
    due("about(4)", x.about(4), 0);
    due("which()", x.which(), 255);

    says(35, "NONE: none.");
    x.clue(0, 0);
    due("one fits", x.ask(), NONE);
    x.clue(0, 1);
    due("none fits", x.ask(), NONE);
    x.clue(NONE, 0);
    due("eight fit", x.ask(), 0);

    says(36, "WHERE: SPOONS (bits). NONE for others.");
    each("where", x::where, NONE, -1, 3, 6, LOW, HIGH);
    due("where(0)", x.where(0), 1);
    due("where(2)", x.where(2), 0);
    x.eat(2, 7);
    due("where(2)", x.where(2), 128);

    says(37, "THEY MEET: SPOONS (bits). NONE for others.");
    each("meets(., 0)", a -> x.meets(a, 0), NONE, -1, 3, 6, LOW, HIGH);
    each("meets(0, .)", b -> x.meets(0, b), NONE, -1, 3, 6, LOW, HIGH);
    due("meets(0, 2)", x.meets(0, 2), 0);
    due("meets(2, 2)", x.meets(2, 2), 128);
    due("meets(1, 0)", x.meets(1, 0), 1);

    says(38, "A LINK: how many SPOONS. NONE: none, and for others.");
    each("link(., 0)", a -> x.link(a, 0), NONE, 2, -1, 3, 6, 32, LOW, HIGH);
    each("link(0, .)", b -> x.link(0, b), NONE, 2, -1, 3, 6, 32, LOW, HIGH);
    each("link of itself", a -> x.link(a, a), NONE, -1, 3, 6);
    due("link(0, 1)", x.link(0, 1), 1);

    says(39, "A TEST: how many there are (diners NONE: none any more). -2 for others (bits of DINERS), or if there are 8.");
    due("none any more of none", x.test(NONE, true), 0);
    each("test(., true)", d -> x.test(d, true), -2, -2, 8, 9, 63, LOW, HIGH);
    due("about(5)", x.about(5), 0);
    due("without diners", new SpoonSet().test(1, true), -2);
    due("test(1, true)", x.test(1, true), 1);
    for (int i = 2; i <= 8; i++) due("test(7, false)", x.test(7, false), i);
    each("the 9th", d -> x.test(d, true), -2, 1, 7);
    due("about(5)", x.about(5), 8);
    due("none any more", x.test(NONE, false), 0);
    due("about(5)", x.about(5), 0);
    due("suspects(0)", x.suspects(0), 7);
    SpoonSet six = withDiners(1, 1, 1, 1, 1, 1);
    due("all six", six.test(63, false), 1);
    due("a seventh", six.test(64, false), -2);

    says(40, "SUSPECTS: DINERS (bits). NONE for others (0 .. 8).");
    each("suspects", x::suspects, NONE, -1, 9, LOW, HIGH);
    each("suspects", x::suspects, 7, 0, 8);

    says(41, "NONE: none.");
    due("without diners", new SpoonSet().surest(), NONE);
    due("with", x.surest(), 0);

    says(49, "SAID: how many there are (diner NONE: none any more). -2 for others, or if there are 8.");
    due("none any more of none", x.said(NONE, 0, 0), 0);
    each("said(., 0, 0)", d -> x.said(d, 0, 0), -2, -2, 3, 6, LOW, HIGH);
    each("said(0, ., 0)", s -> x.said(0, s, 0), -2, -1, 8, LOW, HIGH);
    each("said(0, 0, .)", t -> x.said(0, 0, t), -2, 1000, -1000, LOW, HIGH);
    due("about(6)", x.about(6), 0);
    due("said(2, 7, 999)", x.said(2, 7, 999), 1);
    due("said(0, 0, -999)", x.said(0, 0, -999), 2);
    for (int i = 3; i <= 8; i++) due("said(0, 0, 0)", x.said(0, 0, 0), i);
    due("the 9th", x.said(0, 0, 0), -2);
    due("about(6)", x.about(6), 8);
    due("none any more", x.said(NONE, LOW, HIGH), 0);
    due("about(6)", x.about(6), 0);
  }

  private static void promisesOfHousesAndGame() {
    SpoonSet x = new SpoonSet();

    says(42, "False for others (0 .. 7 each).");
    x.house(0, 7);
    int[] ahead = looks(x);
    each("house(., 1)", h -> bit(x.house(h, 1)), 0, -1, 8, LOW, HIGH);
    each("house(0, .)", h -> bit(x.house(0, h)), 0, -1, 8, LOW, HIGH);
    same("nothing is told", ahead, looks(x));

    says(43, "NONE for others (0 .. 7; 0 .. 1000000).");
    each("goes(., 1)", h -> x.goes(h, 1), NONE, -1, 8, LOW, HIGH);
    each("goes(0, .)", n -> x.goes(0, n), NONE, -1, 1000001, LOW, HIGH);
    due("goes(0, 0)", x.goes(0, 0), 0);
    due("goes(0, 1000000)", x.goes(0, 1000000), 7);
    for (int round = 1; round <= 8; round++) {
      // so many houses in a round, the others lead to it
      for (int h = 0; h < 8; h++) x.house(h, h == round - 1 ? 0 : h < round ? h + 1 : h - 1);
      for (int n : new int[] {0, 7, 8, 9, 839, 840, 841, 848, 849, 999999, 1000000}) {
        int at = 7;
        for (int i = 0; i < n; i++) at = at == round - 1 ? 0 : at < round ? at + 1 : at - 1;
        due("goes(7, " + n + ") to a round of " + round, x.goes(7, n), at);
      }
    }

    says(44, "WHEN TWO MEET: behind how many. NONE: never, and for others.");
    SpoonSet meet = new SpoonSet();
    each("meet(., 0)", a -> meet.meet(a, 0), NONE, 1, 7, -1, 8, LOW, HIGH);
    each("meet(0, .)", b -> meet.meet(0, b), NONE, 1, 7, -1, 8, LOW, HIGH);
    each("meet of one", a -> meet.meet(a, a), NONE, -1, 8);
    each("meet of one", a -> meet.meet(a, a), 0, 0, 7);

    says(45, "WHO COMES: HOUSES (bits). NONE for others.");
    each("comes", meet::comes, NONE, -1, 8, LOW, HIGH);
    due("comes(7)", meet.comes(7), 128);

    says(46, "False for others (0 .. 99 each).");
    SpoonSet value = new SpoonSet();
    value.value(0, 7, 8);
    ahead = looks(value);
    each("value(., 1, 1)", s -> bit(value.value(s, 1, 1)), 0, -1, 8, LOW, HIGH);
    each("value(0, ., 1)", v -> bit(value.value(0, v, 1)), 0, -1, 100, LOW, HIGH);
    each("value(0, 1, .)", v -> bit(value.value(0, 1, v)), 0, -1, 100, LOW, HIGH);
    same("nothing is told", ahead, looks(value));
    due("value(0, 0, 99)", value.value(0, 0, 99), true);
    due("value(7, 99, 0)", value.value(7, 99, 0), true);
    due("99 mine", value.game(129), 0 + 99 - 99);

    says(47, "A GAME: how much more the first gets. -1000 for others (bits of 8).");
    each("game", value::game, -1000, -1, 256, 257, LOW, HIGH);
    due("game(0)", value.game(0), 0);
    due("game(128)", value.game(128), 99);
    due("game(255)", value.game(255), 0);

    says(48, "NONE for others (bits of 8, not 0).");
    each("pick", value::pick, NONE, 0, -1, 256, 257, LOW, HIGH);
    due("pick(128)", value.pick(128), 7);
    due("pick(255)", value.pick(255), 0);
  }

  private static void promisesOfWhoStandsOut() {
    says(51, "NONE: none.");
    due("gladdest()", new SpoonSet().gladdest(), NONE);
    SpoonSet x = eatsWith(withDiners(3, 4, 5), 6, 0, 1, 0);
    due("gladdest()", x.gladdest(), 6);

    says(52, "NONE: none, and for others.");
    each("loved", x::loved, NONE, 0, 2, -1, 3, 6, LOW, HIGH);
    x.feel(2, 0, 1);
    due("loved(2)", x.loved(2), 0);

    says(53, "NONE: none.");
    feudIs(new SpoonSet(), NONE, NONE);
    feudIs(x, NONE, NONE);
    x.feel(2, 1, -1);
    feudIs(x, 1, 2);

    says(54, "NONE: none.");
    due("eldest()", new SpoonSet().eldest(), NONE);
    due("without layers", withDiners(1, 1).eldest(), NONE);
    due("eldest()", x.eldest(), 0);

    says(55, "-2 for others.");
    each("ledger", x::ledger, -2, -1, 3, 6, LOW, HIGH);
    due("ledger(0)", x.ledger(0), 2);
    due("ledger(2)", x.ledger(2), 0);
  }

  private static void promisesOfImages() {
    says(56, "THE IMAGE is as all is now: DINNER.");
    SpoonSet x = new SpoonSet();
    due("image() of a new one", x.image(), 0);
    pass(x, 9999);
    due("image() at the last dinner", x.image(), 9999);
    due("about(3)", x.about(3), 30);

    says(57, "BACK to THE IMAGE (it stays): DINNER.");
    SpoonSet back = new SpoonSet();
    back.diner(5);
    due("back() to the new one", back.back(), 0);
    due("about(0)", back.about(0), 0);
    back.diner(6);
    back.eat(0, 0);
    back.day(2);
    due("image()", back.image(), 2);
    for (int i = 0; i < 3; i++) {
      back.day(3);
      back.smith(0);
      read(back, "diner 1;");
      due("back()", back.back(), 2);
      due("layer(0, 0, 1)", back.layer(0, 0, 1), 4);
      due("about(1)", back.about(1), 0);
      due("about(3)", back.about(3), 3);
    }
    back.undo();
    due("back() behind undo()", back.back(), 2);
    due("about(3)", back.about(3), 3);
    SpoonSet texts = new SpoonSet();
    read(texts, "fades 2;");
    texts.image();
    for (int t = 1; t < 4; t++) read(texts, "fades 3;");
    due("a fifth", read(texts, "fades 4;"), NONE);
    texts.back();
    due("there is room again", read(texts, "diner 7;"), 1);
    due("played(1)", texts.played(1), NONE);
    texts.eat(0, 0);
    texts.by(0);
    due("the image's own rules", texts.layer(0, 0, 2), 2);

    says(58, "0 DINERS, 1 TEXTS, 2 THE TEXT (NONE), 3 STEPS that can be taken back, 4 CLUES, 5 TESTS, 6 SAID, 7 bytes of the tape. -2 for others.");
    SpoonSet about = new SpoonSet();
    for (int what = 0; what <= 7; what++) due("about(" + what + ") at first", about.about(what), what == 2 ? NONE : 0);
    each("about", about::about, -2, -1, 8, LOW, HIGH);
    for (int i = 0; i < 6; i++) about.diner(1);
    for (int i = 0; i < 4; i++) read(about, "");
    about.by(3);
    for (int i = 0; i < 31; i++) about.eat(0, 0);
    for (int i = 0; i < 7; i++) about.clue(0, 0);
    for (int i = 0; i < 9; i++) about.test(1, true);
    for (int i = 0; i < 9; i++) about.said(0, 0, 0);
    for (int i = 0; i < 16; i++) about.feed(0, 0, 0, 0, 0);
    int[] full = {6, 4, 3, 30, 6, 8, 8, 300};
    for (int what = 0; what <= 7; what++) due("about(" + what + ") full", about.about(what), full[what]);
  }
}
