import java.io.IOException;
import java.nio.file.Files;
import java.nio.file.Path;
import java.util.Arrays;
import java.util.BitSet;
import java.util.Map;
import java.util.TreeMap;
import java.util.function.IntUnaryOperator;
import java.util.regex.Matcher;
import java.util.regex.Pattern;

/**
 * What the tests of boundary cases share: each begins by a sentence of the document (or a part of
 * one), in the document's own words. At the end the document is looked through: no sentence with a
 * number, a NONE or the like may be without its test.
 */
abstract class BoundTest {
  static final int NONE = SpoonSet.NONE;
  static final int LOW = Integer.MIN_VALUE;
  static final int HIGH = Integer.MAX_VALUE;
  /** The section of the document ahead of the promises; the others have their promise's number. */
  static final int PARTS = 0;
  static final int PROMISES = 58;

  private static final Path DOCUMENT = Path.of("../shared/DOC.md");
  private static final Pattern BOUND = Pattern.compile("[0-9]|NONE|\\bnone\\b|\\bmost\\b|\\bleast\\b|False|others|beyond|latest|\\bheld\\b|never|empty|Without|without");

  private static final Map<Integer, String> document = new TreeMap<>();
  private static final Map<Integer, BitSet> told = new TreeMap<>();
  private static String sentence = "";
  private static int checksOfSentence = 1;
  private static int sentences = 0;
  private static int checks = 0;
  private static int wrong = 0;

  // ---- the document's words

  static void readDocument() throws IOException {
    String all = Files.readString(DOCUMENT);
    String parts = all.substring(all.indexOf("## Terms"), all.indexOf("## Promise 1:")).replace("```text", "").replace("```", "");
    Matcher used = Pattern.compile("An object is used[^\n]*").matcher(all);
    document.put(PARTS, plain((used.find() ? used.group() : "") + " " + parts.substring("## Terms".length())));
    for (int promise = 1; promise <= PROMISES; promise++) {
      int from = all.indexOf("## Promise " + promise + ":");
      String section = all.substring(all.indexOf('\n', from), all.indexOf("\n## ", from + 1));
      document.put(promise, plain(section.substring(section.indexOf("`: ") + 3)));
    }
    for (int section : document.keySet()) told.put(section, new BitSet());
  }

  private static String plain(String words) { return words.replaceAll("\\s+", " ").trim(); }

  /** A test begins, of these words in this section. */
  static void says(int section, String words) {
    endOfSentence();
    sentence = (section == PARTS ? "" : "promise " + section + ", ") + "\"" + words + "\"";
    sentences++;
    checksOfSentence = 0;
    int at = document.get(section).indexOf(words);
    if (at < 0) complain("isn't in the document");
    else told.get(section).set(at, at + words.length());
  }

  private static void endOfSentence() {
    if (checksOfSentence == 0) complain("has no check");
  }

  private static void complain(String what) {
    wrong++;
    System.out.println(sentence + ": " + what);
  }

  /** Tells how it went; the sections from the first to the last must have been told whole. */
  static void end(int first, int last) {
    endOfSentence();
    for (int section = first; section <= last; section++) isTold(section);
    System.out.println(sentences + " sentences, " + checks + " checks, " + (wrong == 0 ? "all answers are as due" : wrong + " are not as due"));
    if (wrong != 0) System.exit(1);
  }

  private static void isTold(int section) {
    String words = document.get(section);
    StringBuilder left = new StringBuilder();
    for (int i = 0; i < words.length(); i++) left.append(told.get(section).get(i) ? '|' : words.charAt(i));
    sentence = "section " + section;
    for (String piece : left.toString().split("\\|+")) if (BOUND.matcher(piece).find()) complain("no test tells \"" + piece.trim() + "\"");
  }

  // ---- what is due

  static void due(String call, int got, int want) {
    checks++;
    checksOfSentence++;
    if (got != want) complain(call + " answered " + got + ", due is " + want);
  }

  static void due(String call, boolean got, boolean want) { due(call, bit(got), bit(want)); }

  /** Each of these arguments, one after the other, has the same answer. */
  static void each(String call, IntUnaryOperator asked, int want, int... arguments) {
    for (int a : arguments) due(call + " of " + a, asked.applyAsInt(a), want);
  }

  static int bit(boolean b) { return b ? 1 : 0; }

  static void same(String what, int[] ahead, int[] behind) {
    due(what + " " + Arrays.toString(ahead) + " " + Arrays.toString(behind), Arrays.equals(ahead, behind), true);
  }

  /** So much of an object that a call which did something shows, in few calls (an object has 512). */
  static int[] looks(SpoonSet x) {
    int[] all = new int[64];
    int n = 0;
    for (int what = 0; what <= 4; what++) all[n++] = x.is(what);
    for (int what = 0; what <= 7; what++) all[n++] = x.about(what);
    for (int d = 0; d < 3; d++) for (int what = 0; what <= 3; what++) all[n++] = x.of(d, what);
    for (int d = 0; d < 3; d++) all[n++] = x.feels(d, (d + 1) % 3);
    for (int s = 0; s < 8; s++) all[n++] = x.layers(s);
    for (int h = 0; h < 8; h++) all[n++] = x.goes(h, 1);
    for (int s = 0; s < 8; s++) all[n++] = x.game(3 << s & 255);
    int lines = x.book(NONE, 0);
    all[n++] = lines;
    for (int what = 0; what <= 3; what++) all[n++] = x.book(lines - 1, what);
    all[n++] = x.which();
    all[n++] = x.suspects(0);
    all[n++] = x.whose();
    all[n++] = x.fault(0);
    all[n++] = x.fault(1);
    return all;
  }

  // ---- objects as the tests want them

  static SpoonSet withDiners(int... gives) {
    SpoonSet x = new SpoonSet();
    for (int g : gives) x.diner(g);
    return x;
  }

  /** Three diners; 0, 1 and 0 again have eaten with this spoon. */
  static SpoonSet withLayers(int spoon) { return eatsWith(withDiners(3, 4, 5), spoon, 0, 1, 0); }

  static void onTape(SpoonSet x, String text) {
    x.end(0);
    for (int i = 0; i < text.length(); i += 20) {
      int[] five = new int[5];
      for (int k = 0; k < 20; k++) five[k / 4] = five[k / 4] << 8 | (i + k < text.length() ? text.charAt(i + k) & 255 : ' ');
      x.feed(five[0], five[1], five[2], five[3], five[4]);
    }
    x.end(text.length());
  }

  static int read(SpoonSet x, String text) {
    onTape(x, text);
    return x.text();
  }

  /** A new object whose text rules. */
  static SpoonSet ruledBy(String text, int... gives) {
    SpoonSet x = withDiners(gives);
    due("by of \"" + text + "\"", x.by(read(x, text)), true);
    return x;
  }

  /** These eat with the spoon, one after the other. */
  static SpoonSet eatsWith(SpoonSet x, int spoon, int... diners) {
    for (int d : diners) x.eat(d, spoon);
    return x;
  }

  static SpoonSet polishes(SpoonSet x, int spoon, int times) {
    for (int i = 0; i < times; i++) x.polish(spoon);
    return x;
  }

  /** So many dinners pass, 9999 at most, in at most 167 calls. */
  static SpoonSet pass(SpoonSet x, int dinners) {
    for (int left = dinners; left > 0; left -= 60) x.day(Math.min(60, left));
    return x;
  }

  static int nextX(int x) { return (int) ((x * 727L + 593L) % 31051L); }

  static String times(String text, int n) {
    StringBuilder out = new StringBuilder();
    for (int i = 0; i < n; i++) out.append(text);
    return out.toString();
  }

  static void feudIs(SpoonSet x, int one, int other) {
    due("feud(false)", x.feud(false), one);
    due("feud(true)", x.feud(true), other);
  }
}
