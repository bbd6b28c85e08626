import java.util.ArrayList;
import java.util.Arrays;
import java.util.LinkedHashSet;
import java.util.List;
import java.util.Random;
import java.util.Set;
import java.util.regex.Matcher;
import java.util.regex.Pattern;

/**
 * Runs of random calls, each answered by the class and by a model that follows the document's words
 * as plainly as can be: lists of layers, all layings and games tried one by one, texts judged by a
 * general recogniser of the document's grammar and laws reckoned from their tokens each time.
 */
public final class SpoonSetAgainstModel {
  private static final int RUNS = 1200;
  private static final int CALLS = 420;

  public static void main(String[] args) {
    int runs = args.length > 0 ? Integer.parseInt(args[0]) : RUNS;
    int first = args.length > 1 ? Integer.parseInt(args[1]) : 1;
    long calls = 0;
    int wrong = 0;
    for (int seed = first; seed < first + runs && wrong < 5; seed++) {
      Run run = new Run(seed);
      if (seed % 2 == 0) run.readOnly();
      else if (seed % 100 == 1) run.late();
      for (int i = 0; seed % 2 == 1 && i < CALLS && run.complaint == null; i++) run.once();
      calls += run.calls;
      if (run.complaint != null) {
        wrong++;
        System.out.println("run " + seed + ": " + run.complaint);
        for (String line : run.log) System.out.println("    " + line);
      }
    }
    System.out.println(calls + " calls in " + runs + " runs, " + (wrong == 0 ? "all answers are the model's" : wrong + " runs are not"));
    if (wrong != 0) System.exit(1);
  }

  /** One object and its model, and what is called on both. */
  static final class Run {
    final Random random;
    final SpoonSet set = new SpoonSet();
    final Model model = new Model();
    final List<String> log = new ArrayList<>();
    String complaint = null;
    int calls = 0;

    Run(int seed) { random = new Random(seed); }

    void same(String call, int got, int want) {
      calls++;
      log.add(call + " -> " + got);
      if (got != want && complaint == null) complaint = call + " answered " + got + ", the model's answer is " + want;
    }

    void same(String call, boolean got, boolean want) { same(call, got ? 1 : 0, want ? 1 : 0); }

    int pick(int least, int most) { return least + random.nextInt(most - least + 1); }

    int diner() { return pick(0, 9) == 0 ? pick(-3, 7) : pick(0, Math.max(0, model.gives.size() - 1)); }

    int spoon() { return pick(0, 19) == 0 ? pick(-3, 9) : pick(0, 3) == 0 ? pick(0, 7) : pick(0, 2); }

    int house() { return pick(0, 19) == 0 ? pick(-3, 9) : pick(0, 7); }

    /** A few diners and layers, then texts alone: their faults and what their laws say. */
    void readOnly() {
      for (int i = pick(1, 6); i > 0; i--) { int g = pick(1, 9); same("diner(" + g + ")", set.diner(g), model.diner(g)); }
      for (int i = 0; i < 30; i++) tell();
      for (int i = 0; i < 30; i++) { int d = diner(), s = spoon(); same("eat(" + d + ", " + s + ")", set.eat(d, s), model.eat(d, s)); }
      for (int i = 0; i < 12 && complaint == null; i++) {
        text();
        for (int s = 0; s < 3; s++) {
          for (int k = 0; k < 5; k++) same("layer(" + s + ", " + k + ", 2)", set.layer(s, k, 2), model.layer(s, k, 2));
          int d = diner();
          same("tastes(" + d + ", " + s + ")", set.tastes(d, s), model.tastes(d, s));
          same("lasts(" + s + ", " + i % 5 + ")", set.lasts(s, i % 5), model.lasts(s, i % 5));
        }
      }
    }

    /** So many dinners that the last one is near. */
    void late() {
      for (int i = 0; i < 166; i++) same("day(60)", set.day(60), model.day(60));
    }

    void once() {
      int kind = random.nextInt(100);
      if (calls < 20 && random.nextBoolean()) { tell(); return; }
      if (kind < 14) tell();
      else if (kind < 18) text();
      else if (kind < 48) step();
      else if (kind < 60) look();
      else if (kind < 84) question();
      else if (kind < 92) note();
      else if (kind < 98) table();
      else imageOrBack();
      if (complaint == null) whole();
    }

    void tell() {
      switch (calls < 12 ? pick(0, 2) : pick(0, 5)) {
        case 0: { int g = pick(0, 8) == 0 ? pick(-1, 11) : pick(1, 9); same("diner(" + g + ")", set.diner(g), model.diner(g)); break; }
        case 1: case 2: case 3: {
          int d = diner(), m = diner(), f = pick(0, 15) == 0 ? pick(-11, 11) : pick(-9, 9);
          same("feel(" + d + ", " + m + ", " + f + ")", set.feel(d, m, f), model.feel(d, m, f)); break; }
        default: { int d = diner(), s = pick(0, 6) == 0 ? -1 : spoon(); same("card(" + d + ", " + s + ")", set.card(d, s), model.card(d, s)); }
      }
    }

    void text() {
      if (pick(0, 5) == 0) { int n = pick(-2, 301); same("end(" + n + ")", set.end(n), model.end(n)); return; }
      if (pick(0, 2) > 0) { int n = 0; same("end(0)", set.end(n), model.end(n)); }
      String text = new Writer(random).text();
      log.add("feeding \"" + text + "\"");
      int had = model.tape.size();
      for (int i = 0; i < text.length(); i += 20) {
        int[] five = new int[5];
        for (int k = 0; k < 20; k++) {
          int b = i + k < text.length() ? text.charAt(i + k) : random.nextInt(256);
          five[k / 4] = five[k / 4] << 8 | b;
        }
        same("feed(" + five[0] + ", " + five[1] + ", " + five[2] + ", " + five[3] + ", " + five[4] + ")",
            set.feed(five[0], five[1], five[2], five[3], five[4]), model.feed(five));
      }
      int n = had + text.length();
      same("end(" + n + ")", set.end(n), model.end(n));
      same("text()", set.text(), model.text());
      for (int what = -1; what <= 2; what++) same("fault(" + what + ")", set.fault(what), model.fault(what));
      int by = pick(-1, 4);
      same("by(" + by + ")", set.by(by), model.by(by));
    }

    void step() {
      int s = spoon();
      switch (pick(0, 15)) {
        case 0: case 1: case 2: case 3: case 4: case 5: case 6: {
          int d = diner(); same("eat(" + d + ", " + s + ")", set.eat(d, s), model.eat(d, s)); break; }
        case 7: same("smith(" + s + ")", set.smith(s), model.smith(s)); break;
        case 8: case 9: same("polish(" + s + ")", set.polish(s), model.polish(s)); break;
        case 10: case 11: { int n = pick(0, 9) == 0 ? pick(-1, 62) : pick(1, 4); same("day(" + n + ")", set.day(n), model.day(n)); break; }
        case 12: { int t = pick(-1, 4); same("played(" + t + ")", set.played(t), model.played(t)); break; }
        case 13: {
          int seed = pick(0, 9) == 0 ? pick(-2, 10002) : pick(0, 9999), n = pick(0, 9) == 0 ? pick(-1, 42) : pick(1, 40);
          same("years(" + seed + ", " + n + ")", set.years(seed, n), model.years(seed, n)); break; }
        default: same("undo()", set.undo(), model.undo());
      }
    }

    void look() {
      int d = diner(), s = spoon();
      switch (pick(0, 4)) {
        case 0: { int w = pick(-1, 4); same("of(" + d + ", " + w + ")", set.of(d, w), model.of(d, w)); break; }
        case 1: { int m = diner(); same("feels(" + d + ", " + m + ")", set.feels(d, m), model.feels(d, m)); break; }
        case 2: { int i = pick(-1, 5), w = pick(-1, 3); same("layer(" + s + ", " + i + ", " + w + ")", set.layer(s, i, w), model.layer(s, i, w)); break; }
        case 3: { int i = pick(-2, 25), w = pick(-1, 4); same("book(" + i + ", " + w + ")", set.book(i, w), model.book(i, w)); break; }
        default: { int w = pick(-1, 8); same("about(" + w + ")", set.about(w), model.about(w)); }
      }
    }

    void question() {
      int d = diner(), m = diner(), s = spoon();
      switch (pick(0, 17)) {
        case 0: { int n = pick(0, 9) == 0 ? pick(-1, 62) : pick(1, 60); same("foretold(" + n + ", " + s + ")", set.foretold(n, s), model.foretold(n, s)); break; }
        case 1: same("tastes(" + d + ", " + s + ")", set.tastes(d, s), model.tastes(d, s)); break;
        case 2: if (pick(0, 3) == 0) { boolean w = random.nextBoolean(); same("best(" + w + ")", set.best(w), model.best(w)); } break;
        case 3: if (pick(0, 3) == 0) same("laid(" + d + ")", set.laid(d), model.laid(d)); break;
        case 4: if (pick(0, 3) == 0) same("layings()", set.layings(), model.layings()); break;
        case 5: same("rid(" + s + ", " + m + ")", set.rid(s, m), model.rid(s, m)); break;
        case 6: same("alone(" + m + ")", set.alone(m), model.alone(m)); break;
        case 7: same("strongest(" + m + ")", set.strongest(m), model.strongest(m)); break;
        case 8: { int t = pick(0, 5) == 0 ? pick(-2, 101) : pick(0, 30); same("thin(" + t + ")", set.thin(t), model.thin(t)); break; }
        case 9: case 10: { int i = pick(-1, 5); same("lasts(" + s + ", " + i + ")", set.lasts(s, i), model.lasts(s, i)); break; }
        case 11: same("where(" + m + ")", set.where(m), model.where(m)); break;
        case 12: same("meets(" + d + ", " + m + ")", set.meets(d, m), model.meets(d, m)); break;
        case 13: same("link(" + d + ", " + m + ")", set.link(d, m), model.link(d, m)); break;
        case 14: same("loved(" + d + ")", set.loved(d), model.loved(d)); break;
        case 15: { boolean b = random.nextBoolean(); same("feud(" + b + ")", set.feud(b), model.feud(b)); break; }
        case 16: same("ledger(" + m + ")", set.ledger(m), model.ledger(m)); break;
        default: same("gladdest()", set.gladdest(), model.gladdest()); same("eldest()", set.eldest(), model.eldest());
      }
    }

    void note() {
      switch (pick(0, 5)) {
        case 0: case 1: {
          int deep = pick(0, 4) == 0 ? -1 : pick(0, 9) == 0 ? pick(-2, 5) : pick(0, 2), m = pick(0, 2) == 0 ? -1 : diner();
          same("clue(" + deep + ", " + m + ")", set.clue(deep, m), model.clue(deep, m));
          same("which()", set.which(), model.which()); same("ask()", set.ask(), model.ask()); break; }
        case 2: case 3: {
          int all = (1 << model.gives.size()) - 1;
          int bits = pick(0, 5) == 0 ? pick(-2, 66) : all & random.nextInt(64);
          boolean thief = random.nextBoolean();
          same("test(" + bits + ", " + thief + ")", set.test(bits, thief), model.test(bits, thief));
          int w = pick(0, 4) == 0 ? pick(-1, 9) : pick(0, 3);
          same("suspects(" + w + ")", set.suspects(w), model.suspects(w)); same("surest()", set.surest(), model.surest()); break; }
        default: {
          int d = pick(0, 5) == 0 ? -1 : diner(), s = spoon();
          int t = pick(0, 3) == 0 ? pick(-1001, 1001) : model.tastes(Math.max(0, d), Math.max(0, s));
          same("said(" + d + ", " + s + ", " + t + ")", set.said(d, s, t), model.said(d, s, t));
          same("whose()", set.whose(), model.whose()); }
      }
    }

    void table() {
      int a = house(), b = house();
      switch (pick(0, 6)) {
        case 0: case 1: same("house(" + a + ", " + b + ")", set.house(a, b), model.house(a, b)); break;
        case 2: { int n = pick(0, 3) == 0 ? pick(-1, 30) : pick(0, 9) == 0 ? pick(999000, 1000001) : pick(0, 3000);
          same("goes(" + a + ", " + n + ")", set.goes(a, n), model.goes(a, n)); break; }
        case 3: same("meet(" + a + ", " + b + ")", set.meet(a, b), model.meet(a, b)); same("comes(" + a + ")", set.comes(a), model.comes(a)); break;
        case 4: case 5: { int x = pick(0, 9) == 0 ? pick(-1, 101) : pick(0, 12), y = pick(0, 9) == 0 ? pick(-1, 101) : pick(0, 12);
          same("value(" + a + ", " + x + ", " + y + ")", set.value(a, x, y), model.value(a, x, y)); break; }
        default: { int tray = pick(0, 9) == 0 ? pick(-2, 257) : pick(0, 255) & pick(0, 255);
          same("game(" + tray + ")", set.game(tray), model.game(tray)); same("pick(" + tray + ")", set.pick(tray), model.pick(tray)); }
      }
    }

    void imageOrBack() {
      if (random.nextBoolean()) same("image()", set.image(), model.image()); else same("back()", set.back(), model.back());
    }

    /** A look at all that is held, so that a wrong state shows at once; not counted among the object's calls. */
    void whole() {
      for (int what = 0; what <= 4; what++) quietly("is(" + what + ")", set.is(what), model.is(what));
      for (int what = 0; what <= 7; what++) quietly("about(" + what + ")", set.about(what), model.about(what));
      for (int s = 0; s < 8; s++) {
        quietly("layers(" + s + ")", set.layers(s), model.layers(s));
        for (int i = 0; i < 5; i++) for (int w = 0; w < 2; w++) quietly("layer(" + s + ", " + i + ", " + w + ")", set.layer(s, i, w), model.layer(s, i, w));
      }
    }

    void quietly(String call, int got, int want) {
      if (got != want && complaint == null) complaint = "then " + call + " is " + got + ", the model's is " + want;
    }
  }

  /** Texts: by the grammar mostly, sometimes with a sign, a word or a byte out of place. */
  static final class Writer {
    final Random random;
    final StringBuilder out = new StringBuilder();

    Writer(Random random) { this.random = random; }

    int pick(int least, int most) { return least + random.nextInt(most - least + 1); }

    void put(String token) {
      int last = out.length() == 0 ? ' ' : out.charAt(out.length() - 1);
      boolean joins = Character.isLetter(last) && Character.isLetter(token.charAt(0)) || Character.isDigit(last) && Character.isDigit(token.charAt(0));
      if (joins || pick(0, 5) == 0) out.append(pick(0, 9) == 0 ? "\n" : pick(0, 9) == 0 ? "  " : " ");
      out.append(token);
    }

    void number(int least, int most) { put(pick(0, 60) == 0 ? "" + (most + 1) : pick(0, 30) == 0 ? "0" + pick(least, most) : "" + pick(least, most)); }

    String text() {
      int clauses = pick(0, 40) == 0 ? 26 : pick(0, 6);
      boolean[] law = new boolean[2];
      for (int i = 0; i < clauses; i++) clause(law, clauses > 20);
      String text = out.toString();
      if (pick(0, 4) == 0) text = spoiled(text);
      return text.length() > 300 ? text.substring(0, pick(290, 300)) : text;
    }

    void clause(boolean[] law, boolean brief) {
      switch (brief ? pick(3, 8) : pick(0, 9)) {
        case 0: case 1: case 2: {
          int which = pick(0, 1);
          if (law[which] && pick(0, 3) > 0) which = 1 - which;
          law[which] = true;
          put(which == 0 ? "fades" : "felt");
          sum(which == 0, pick(0, 12) == 0 ? 10 : pick(0, 4));
          break; }
        case 3: put("diner"); number(1, 9); break;
        case 4: put("card"); number(0, 5); put("at"); number(0, 7); break;
        case 5: put("eat"); number(0, pick(0, 5)); put("with"); number(0, 7); break;
        case 6: put("smith"); number(0, 7); break;
        case 7: put("polish"); number(0, 7); break;
        case 8: put("day"); number(1, pick(0, 5) == 0 ? 60 : 3); break;
        default: put("eat"); number(0, 1); put("with"); number(0, 3);
      }
      put(";");
    }

    void sum(boolean fades, int deep) {
      product(fades, deep);
      for (int i = pick(-1, 1); i > 0; i--) { put(pick(0, 1) == 0 ? "+" : "-"); product(fades, deep); }
    }

    void product(boolean fades, int deep) {
      one(fades, deep);
      for (int i = pick(-2, 1); i > 0; i--) { put(pick(0, 1) == 0 ? "*" : "/"); one(fades, deep); }
    }

    void one(boolean fades, int deep) {
      if (deep <= 0 || pick(0, 3) == 0 && deep < 5) {
        boolean strange = pick(0, 300) == 0;
        String[] names = {"day", "spoon", "mouth", "strong", "deep", fades ^ strange ? "layers" : "diner", fades ^ strange ? "layers" : "feels"};
        if (pick(0, 1) == 0) put(names[pick(0, 6)]);
        else put("" + (pick(0, 3) == 0 ? pick(0, 9999) : pick(0, 9)));
        return;
      }
      switch (deep > 4 ? pick(0, 4) : pick(0, 5)) {
        case 0: put("("); sum(fades, deep - 1); put(")"); break;
        case 1: put("-"); one(fades, pick(0, 5) == 0 ? deep : deep - 1); break;
        case 2: put("gives"); one(fades, deep - 1); break;
        case 3: put("top"); one(fades, deep - 1); break;
        default:
          put("if"); either(fades, deep - 1);
          put("then"); sum(fades, deep - 1);
          put("else"); sum(fades, deep - 1);
          put("end");
      }
    }

    void either(boolean fades, int deep) {
      asked(fades, deep);
      for (int i = pick(-1, 2); i > 0; i--) { put(pick(0, 1) == 0 ? "or" : "and"); asked(fades, deep); }
    }

    void asked(boolean fades, int deep) {
      for (int i = pick(-3, 2); i > 0; i--) put("not");
      sum(fades, deep - 1);
      put(new String[] {"<", "<=", ">", ">=", "=", "#"}[pick(0, 5)]);
      sum(fades, deep - 1);
    }

    String spoiled(String text) {
      String[] bits = {"(", ")", ";", "-", "+", "*", "<", "<=", "= ", "#", "if ", " then ", " end ", " not ", " and ", " or ", " diner ", " layers ", " feels ",
          " top ", " gives ", "(((((((((", "---------", " 10000 ", "99999999999999999999", " fades ", " felt ", " Fades ", "x", "!", "\t", "\0", "\u00e9", " card ", " at ", " with "};
      int at = pick(0, text.length());
      int cut = Math.min(text.length(), at + pick(0, 3));
      return text.substring(0, at) + (pick(0, 3) == 0 ? "" : bits[pick(0, bits.length - 1)]) + text.substring(cut);
    }
  }

  /** What the document says, told plainly. */
  static final class Model {
    static final int NONE = -1;

    static final class Layer {
      final int mouth;
      int strong;
      Layer(int mouth, int strong) { this.mouth = mouth; this.strong = strong; }
    }

    /** What a step changes; layers from the top down. */
    static final class State {
      final List<List<Layer>> spoons = new ArrayList<>();
      final List<int[]> book = new ArrayList<>();
      int mood = 0, dinner = 0, x = 461;

      State() { for (int i = 0; i < 8; i++) spoons.add(new ArrayList<>()); }

      State copy() {
        State s = new State();
        for (int i = 0; i < 8; i++) for (Layer l : spoons.get(i)) s.spoons.get(i).add(new Layer(l.mouth, l.strong));
        s.book.addAll(book);
        s.mood = mood; s.dinner = dinner; s.x = x;
        return s;
      }
    }

    State now = new State();
    List<State> steps = new ArrayList<>();
    List<Integer> gives = new ArrayList<>();
    int[][] feels = new int[6][6];
    int[] cards = {-1, -1, -1, -1, -1, -1};
    List<Text> texts = new ArrayList<>();
    int ruling = NONE;
    List<int[]> clues = new ArrayList<>(), tests = new ArrayList<>(), said = new ArrayList<>();
    int[] next = {0, 1, 2, 3, 4, 5, 6, 7}, mine = new int[8], yours = new int[8];
    List<Integer> tape = new ArrayList<>();
    Text latest = null;
    Model image = null;

    /** All but the tape, the latest text and the image. */
    void take(Model m) {
      now = m.now.copy();
      steps = new ArrayList<>();
      for (State s : m.steps) steps.add(s.copy());
      gives = new ArrayList<>(m.gives);
      feels = new int[6][];
      for (int i = 0; i < 6; i++) feels[i] = m.feels[i].clone();
      cards = m.cards.clone();
      texts = new ArrayList<>(m.texts);
      ruling = m.ruling;
      clues = new ArrayList<>(m.clues);
      tests = new ArrayList<>(m.tests);
      said = new ArrayList<>(m.said);
      next = m.next.clone();
      mine = m.mine.clone();
      yours = m.yours.clone();
    }

    int image() { image = new Model(); image.take(this); return now.dinner; }
    int back() { take(image == null ? new Model() : image); return now.dinner; }

    boolean isDiner(int d) { return d >= 0 && d < gives.size(); }
    boolean isSpoon(int s) { return s >= 0 && s <= 7; }

    int diner(int g) {
      if (g < 1 || g > 9 || gives.size() == 6) return NONE;
      gives.add(g);
      return gives.size() - 1;
    }

    boolean feel(int d, int m, int f) {
      if (!isDiner(d) || !isDiner(m) || d == m || Math.abs(f) > 9) return false;
      feels[d][m] = f;
      return true;
    }

    boolean card(int d, int s) {
      if (!isDiner(d) || !(isSpoon(s) || s == NONE)) return false;
      cards[d] = s;
      return true;
    }

    int feed(int[] five) {
      if (tape.size() + 20 > 300) return NONE;
      for (int word : five) for (int k = 3; k >= 0; k--) tape.add(word >> 8 * k & 255);
      return tape.size();
    }

    int end(int n) {
      if (n < 0 || n > tape.size()) return NONE;
      tape = new ArrayList<>(tape.subList(0, n));
      return n;
    }

    int text() {
      if (texts.size() == 4) return NONE;
      StringBuilder bytes = new StringBuilder();
      for (int b : tape) bytes.append((char) b);
      tape = new ArrayList<>();
      latest = new Text(bytes.toString());
      if (latest.fault != 0) return NONE;
      texts.add(latest);
      return texts.size() - 1;
    }

    int fault(int what) {
      if (latest == null || what < 0 || what > 1) return NONE;
      return what == 0 ? latest.fault : latest.place;
    }

    boolean by(int t) {
      if (t < NONE || t >= texts.size()) return false;
      ruling = t;
      return true;
    }

    Text law() { return ruling == NONE ? new Text("") : texts.get(ruling); }

    int fadesOf(Text law, State s, int spoon, int deep) {
      if (law.fades == null) return 1;
      Layer l = s.spoons.get(spoon).get(deep);
      return Math.max(0, Math.min(9, new Reckoner(this, s, law.fades,
          new int[] {s.dinner, spoon, l.mouth, l.strong, deep, s.spoons.get(spoon).size(), 0, 0}).all()));
    }

    int feltOf(Text law, State s, int diner, int spoon, int deep) {
      Layer l = s.spoons.get(spoon).get(deep);
      int f = feels[diner][l.mouth];
      int says = law.felt == null ? f * l.strong / (deep + 1)
          : new Reckoner(this, s, law.felt, new int[] {s.dinner, spoon, l.mouth, l.strong, deep, 0, diner, f}).all();
      return Math.max(-99, Math.min(99, says));
    }

    int tasted(Text law, State s, int diner, int spoon) {
      int sum = 0;
      for (int deep = 0; deep < s.spoons.get(spoon).size(); deep++)
        if (s.spoons.get(spoon).get(deep).mouth != diner) sum += feltOf(law, s, diner, spoon, deep);
      return sum;
    }

    void written(State s, int what, int spoon) {
      List<Layer> layers = s.spoons.get(spoon);
      s.book.add(new int[] {s.dinner, what, spoon, layers.isEmpty() ? NONE : layers.get(0).mouth});
      while (s.book.size() > 25) s.book.remove(0);
    }

    int eaten(State s, int diner, int spoon) {
      int felt = tasted(law(), s, diner, spoon);
      s.mood = Math.max(-99999, Math.min(99999, s.mood + felt));
      List<Layer> layers = s.spoons.get(spoon);
      if (!layers.isEmpty() && layers.get(0).mouth == diner) layers.get(0).strong = Math.min(99, layers.get(0).strong + gives.get(diner));
      else {
        layers.add(0, new Layer(diner, gives.get(diner)));
        if (layers.size() > 5) layers.remove(5);
      }
      written(s, 0, spoon);
      return felt;
    }

    int smithed(State s, int spoon) {
      List<Layer> layers = s.spoons.get(spoon);
      if (layers.isEmpty()) return NONE;
      int whose = layers.remove(layers.size() - 1).mouth;
      written(s, 1, spoon);
      return whose;
    }

    int polished(State s, int spoon) {
      List<Layer> layers = s.spoons.get(spoon);
      if (layers.isEmpty()) return NONE;
      layers.get(0).strong = Math.min(99, 2 * layers.get(0).strong);
      written(s, 2, spoon);
      return layers.get(0).strong;
    }

    static int draw(State s) {
      int x = s.x;
      s.x = (int) ((x * 727L + 593L) % 31051L);
      return x;
    }

    void faded(State s) {
      for (int spoon = 0; spoon < 8; spoon++) {
        List<Layer> layers = s.spoons.get(spoon);
        for (Layer l : new ArrayList<>(layers)) {
          l.strong -= fadesOf(law(), s, spoon, layers.indexOf(l));
          if (l.strong <= 0) layers.remove(l);
        }
      }
      s.dinner++;
    }

    int dinner(State s) {
      int eat = 0;
      for (int d = 0; d < gives.size(); d++) {
        if (cards[d] == NONE) continue;
        if (draw(s) % 8 != 0) { eaten(s, d, cards[d]); eat++; }
      }
      faded(s);
      return eat;
    }

    void step() {
      steps.add(now.copy());
      while (steps.size() > 30) steps.remove(0);
    }

    int eat(int d, int s) {
      if (!isDiner(d) || !isSpoon(s)) return -10000;
      step();
      return eaten(now, d, s);
    }

    int smith(int s) {
      if (!isSpoon(s) || now.spoons.get(s).isEmpty()) return NONE;
      step();
      return smithed(now, s);
    }

    int polish(int s) {
      if (!isSpoon(s) || now.spoons.get(s).isEmpty()) return NONE;
      step();
      return polished(now, s);
    }

    int day(int n) {
      if (n < 1 || n > 60 || now.dinner + n > 9999) return NONE;
      int eat = 0;
      for (int i = 0; i < n; i++) { step(); eat += dinner(now); }
      return eat;
    }

    int played(int t) {
      if (t < 0 || t >= texts.size()) return -2;
      List<String[]> clauses = texts.get(t).clauses;
      for (int i = 0; i < clauses.size(); i++) if (!does(clauses.get(i))) return i;
      return NONE;
    }

    boolean does(String[] c) {
      int a = c.length > 1 && !c[0].startsWith("f") ? Integer.parseInt(c[1]) : 0;
      switch (c[0]) {
        case "diner": return diner(a) != NONE;
        case "card": return card(a, Integer.parseInt(c[3]));
        case "eat": return eat(a, Integer.parseInt(c[3])) != -10000;
        case "smith": return smith(a) != NONE;
        case "polish": return polish(a) != NONE;
        case "day":
          for (int i = 0; i < a; i++) if (day(1) == NONE) return false;
          return true;
        default: return true;
      }
    }

    int years(int seed, int n) {
      if (seed < 0 || seed > 9999 || n < 1 || n > 40) return NONE;
      step();
      now.x = seed * 2 + 461;
      for (int i = 0; i < n; i++) {
        int x = draw(now);
        int m = x % 6;
        if (m <= 1 && isDiner(x / 6 % 6)) eaten(now, x / 6 % 6, x % 8);
        if (m == 2 && x % 4 == 0) smithed(now, x / 6 % 8);
        if (m == 3 && x % 4 == 1) polished(now, x / 6 % 8);
        if (m >= 4 && now.dinner < 9999) dinner(now);
      }
      return now.dinner;
    }

    int undo() {
      if (steps.isEmpty()) return NONE;
      now = steps.remove(steps.size() - 1);
      return steps.size();
    }

    int of(int d, int what) {
      if (!isDiner(d)) return -2;
      int count = 0, strong = 0;
      for (List<Layer> layers : now.spoons) for (Layer l : layers) if (l.mouth == d) { count++; strong += l.strong; }
      int[] all = {gives.get(d), cards[d], count, strong};
      return what < 0 || what > 3 ? -2 : all[what];
    }

    int feels(int d, int m) { return isDiner(d) && isDiner(m) ? feels[d][m] : -100; }
    int layers(int s) { return isSpoon(s) ? now.spoons.get(s).size() : NONE; }

    int layer(int s, int i, int what) {
      if (!isSpoon(s) || i < 0 || i >= now.spoons.get(s).size() || what < 0 || what > 2) return NONE;
      Layer l = now.spoons.get(s).get(i);
      return what == 0 ? l.mouth : what == 1 ? l.strong : fadesOf(law(), now, s, i);
    }

    static int strongOf(State s, int spoon) { return s.spoons.get(spoon).stream().mapToInt(l -> l.strong).sum(); }

    int is(int what) {
      int empty = 0, strong = 0;
      for (int s = 0; s < 8; s++) { if (now.spoons.get(s).isEmpty()) empty |= 1 << s; strong += strongOf(now, s); }
      int[] all = {now.dinner, now.x, now.mood, empty, strong};
      return what < 0 || what > 4 ? -100000 : all[what];
    }

    int book(int i, int what) {
      if (i == NONE) return now.book.size();
      if (i < 0 || i >= now.book.size() || what < 0 || what > 3) return -2;
      return now.book.get(i)[what];
    }

    int foretold(int n, int spoon) {
      if (n < 1 || n > 60 || !isSpoon(spoon)) return NONE;
      State s = now.copy();
      for (int i = 0; i < n && s.dinner < 9999; i++) dinner(s);
      return strongOf(s, spoon);
    }

    int tastes(int d, int s) { return isDiner(d) && isSpoon(s) ? tasted(law(), now, d, s) : -10000; }

    /** All layings, the lowest first: the spoons of each and, last, what is felt. */
    List<int[]> allLayings() {
      int[][] felt = new int[gives.size()][8];
      for (int d = 0; d < gives.size(); d++) for (int s = 0; s < 8; s++) felt[d][s] = tastes(d, s);
      List<int[]> all = new ArrayList<>();
      layOn(felt, new int[gives.size() + 1], 0, 0, all);
      return all;
    }

    void layOn(int[][] felt, int[] laid, int d, int used, List<int[]> all) {
      if (d == felt.length) { all.add(laid.clone()); return; }
      for (int s = 0; s < 8; s++) {
        if ((used >> s & 1) == 1) continue;
        laid[d] = s;
        laid[felt.length] += felt[d][s];
        layOn(felt, laid, d + 1, used | 1 << s, all);
        laid[felt.length] -= felt[d][s];
      }
    }

    int best(boolean worst) {
      int n = gives.size();
      return worst ? allLayings().stream().mapToInt(l -> l[n]).min().getAsInt() : allLayings().stream().mapToInt(l -> l[n]).max().getAsInt();
    }

    int laid(int d) {
      if (!isDiner(d)) return NONE;
      int most = best(false), n = gives.size();
      for (int[] l : allLayings()) if (l[n] == most) return l[d];
      return NONE;
    }

    int layings() {
      int most = best(false), n = gives.size();
      return (int) allLayings().stream().filter(l -> l[n] == most).count();
    }

    boolean has(State s, int spoon, int mouth) { return s.spoons.get(spoon).stream().anyMatch(l -> l.mouth == mouth); }

    int rid(int spoon, int mouth) {
      if (!isSpoon(spoon) || !isDiner(mouth)) return NONE;
      State s = now.copy();
      int n = 0;
      while (has(s, spoon, mouth)) { smithed(s, spoon); n++; }
      return n;
    }

    int alone(int mouth) {
      if (!isDiner(mouth)) return NONE;
      int bits = 0;
      for (int s = 0; s < 8; s++) if (!now.spoons.get(s).isEmpty() && now.spoons.get(s).stream().allMatch(l -> l.mouth == mouth)) bits |= 1 << s;
      return bits;
    }

    int strongest(int mouth) {
      if (!isDiner(mouth)) return NONE;
      int found = NONE, most = 0;
      for (int s = 7; s >= 0; s--) {
        int strong = now.spoons.get(s).stream().filter(l -> l.mouth == mouth).mapToInt(l -> l.strong).sum();
        if (strong > 0 && strong >= most) { most = strong; found = s; }
      }
      return found;
    }

    int thin(int strong) {
      if (strong < 0 || strong > 99) return NONE;
      return (int) now.spoons.stream().flatMap(List::stream).filter(l -> l.strong <= strong).count();
    }

    int lasts(int spoon, int i) {
      if (!isSpoon(spoon) || i < 0 || i >= now.spoons.get(spoon).size()) return NONE;
      State s = now.copy();
      Layer watched = s.spoons.get(spoon).get(i);
      for (int n = 1; n <= 60; n++) {
        faded(s);
        if (!s.spoons.get(spoon).contains(watched)) return n;
      }
      return NONE;
    }

    int clue(int deep, int mouth) {
      if (deep == NONE) { clues.clear(); return 0; }
      if (deep < 0 || deep > 4 || !(mouth == NONE || isDiner(mouth)) || clues.size() == 6) return -2;
      clues.add(new int[] {deep, mouth});
      return clues.size();
    }

    int mouthAt(int s, int deep) { return deep < now.spoons.get(s).size() ? now.spoons.get(s).get(deep).mouth : NONE; }

    int which() {
      int bits = 0;
      for (int s = 0; s < 8; s++) {
        int spoon = s;
        if (clues.stream().allMatch(c -> mouthAt(spoon, c[0]) == c[1])) bits |= 1 << s;
      }
      return bits;
    }

    int ask() {
      int bits = which(), found = NONE, fewest = 99;
      if (Integer.bitCount(bits) <= 1) return NONE;
      for (int deep = 4; deep >= 0; deep--) {
        int[] counts = new int[7];
        for (int s = 0; s < 8; s++) if ((bits >> s & 1) == 1) counts[mouthAt(s, deep) + 1]++;
        int most = Arrays.stream(counts).max().getAsInt();
        if (most <= fewest) { fewest = most; found = deep; }
      }
      return found;
    }

    int where(int mouth) { return meets(mouth, mouth); }

    int meets(int a, int b) {
      if (!isDiner(a) || !isDiner(b)) return NONE;
      int bits = 0;
      for (int s = 0; s < 8; s++) if (has(now, s, a) && has(now, s, b)) bits |= 1 << s;
      return bits;
    }

    int link(int a, int b) {
      if (!isDiner(a) || !isDiner(b)) return NONE;
      int n = gives.size();
      int[][] way = new int[n][n];
      for (int i = 0; i < n; i++) for (int j = 0; j < n; j++) way[i][j] = i == j ? 0 : meets(i, j) != 0 ? 1 : 99;
      for (int k = 0; k < n; k++) for (int i = 0; i < n; i++) for (int j = 0; j < n; j++) way[i][j] = Math.min(way[i][j], way[i][k] + way[k][j]);
      return way[a][b] >= 99 ? NONE : way[a][b];
    }

    int test(int bits, boolean thief) {
      if (bits == NONE) { tests.clear(); return 0; }
      if (bits < 0 || bits >= 1 << gives.size() || tests.size() == 8) return -2;
      tests.add(new int[] {bits, thief ? 1 : 0});
      return tests.size();
    }

    int wrongOf(int d) { return (int) tests.stream().filter(t -> (t[0] >> d & 1) != t[1]).count(); }

    int suspects(int wrong) {
      if (wrong < 0 || wrong > 8) return NONE;
      int bits = 0;
      for (int d = 0; d < gives.size(); d++) if (wrongOf(d) <= wrong) bits |= 1 << d;
      return bits;
    }

    int surest() {
      int found = NONE;
      for (int d = 0; d < gives.size(); d++) if (found == NONE || wrongOf(d) < wrongOf(found)) found = d;
      return found;
    }

    boolean house(int h, int to) {
      if (!isSpoon(h) || !isSpoon(to)) return false;
      next[h] = to;
      return true;
    }

    int goes(int h, int n) {
      if (!isSpoon(h) || n < 0 || n > 1000000) return NONE;
      for (int i = 0; i < n; i++) h = next[h];
      return h;
    }

    int meet(int a, int b) {
      if (!isSpoon(a) || !isSpoon(b)) return NONE;
      for (int n = 0; n < 1000; n++) if (goes(a, n) == goes(b, n)) return n;
      return NONE;
    }

    int comes(int house) {
      if (!isSpoon(house)) return NONE;
      int bits = 0;
      for (int h = 0; h < 8; h++) for (int n = 0; n < 20; n++) if (goes(h, n) == house) bits |= 1 << h;
      return bits;
    }

    boolean value(int s, int a, int b) {
      if (!isSpoon(s) || a < 0 || a > 99 || b < 0 || b > 99) return false;
      mine[s] = a;
      yours[s] = b;
      return true;
    }

    int gameFrom(int tray, boolean first) {
      if (tray == 0) return 0;
      int best = first ? -9999 : 9999;
      for (int s = 0; s < 8; s++) {
        if ((tray >> s & 1) == 0) continue;
        int rest = gameFrom(tray & ~(1 << s), !first);
        best = first ? Math.max(best, rest + mine[s]) : Math.min(best, rest - yours[s]);
      }
      return best;
    }

    int game(int tray) { return tray < 0 || tray > 255 ? -1000 : gameFrom(tray, true); }

    int pick(int tray) {
      if (tray < 1 || tray > 255) return NONE;
      for (int s = 0; s < 8; s++) if ((tray >> s & 1) == 1 && mine[s] + gameFrom(tray & ~(1 << s), false) == gameFrom(tray, true)) return s;
      return NONE;
    }

    int said(int d, int s, int t) {
      if (d == NONE) { said.clear(); return 0; }
      if (!isDiner(d) || !isSpoon(s) || t < -999 || t > 999 || said.size() == 8) return -2;
      said.add(new int[] {d, s, t});
      return said.size();
    }

    int whose() {
      int bits = 0;
      for (int t = 0; t < texts.size(); t++) {
        Text law = texts.get(t);
        if (said.stream().allMatch(x -> tasted(law, now, x[0], x[1]) == x[2])) bits |= 1 << t;
      }
      return bits;
    }

    int gladdest() {
      int found = NONE;
      for (int s = 0; s < 8; s++) if (strongOf(now, s) > (found == NONE ? 0 : strongOf(now, found))) found = s;
      return found;
    }

    int loved(int d) {
      if (!isDiner(d)) return NONE;
      for (int f = 9; f > 0; f--) for (int m = 0; m < gives.size(); m++) if (feels[d][m] == f) return m;
      return NONE;
    }

    int feud(boolean second) {
      for (int f = -18; f < 0; f++)
        for (int a = 0; a < gives.size(); a++)
          for (int b = a + 1; b < gives.size(); b++) if (feels[a][b] + feels[b][a] == f) return second ? b : a;
      return NONE;
    }

    int eldest() {
      int[] counts = new int[6];
      for (List<Layer> layers : now.spoons) if (!layers.isEmpty()) counts[layers.get(layers.size() - 1).mouth]++;
      for (int n = 8; n > 0; n--) for (int m = 0; m < 6; m++) if (counts[m] == n) return m;
      return NONE;
    }

    int ledger(int mouth) { return isDiner(mouth) ? (int) now.book.stream().filter(l -> l[3] == mouth).count() : -2; }

    int about(int what) {
      int[] all = {gives.size(), texts.size(), ruling, steps.size(), clues.size(), tests.size(), said.size(), tape.size()};
      return what < 0 || what > 7 ? -2 : all[what];
    }
  }

  /** A text's tokens, its first fault, its clauses and laws. */
  static final class Text {
    static final Pattern TOKEN = Pattern.compile("[a-zA-Z]+|[0-9]+|<=|>=|[<>=#+\\-*/();]|[^ \\n]", Pattern.DOTALL);
    final List<String> tokens = new ArrayList<>();
    final List<Integer> places = new ArrayList<>();
    final List<String[]> clauses = new ArrayList<>();
    int fault = 0, place = -1;
    String[] fades = null, felt = null;

    Text(String bytes) {
      Matcher m = TOKEN.matcher(bytes);
      while (m.find()) { tokens.add(m.group()); places.add(m.start()); }
      places.add(bytes.length());
      findFault();
      if (fault == 0) cutClauses();
    }

    void cutClauses() {
      List<String> clause = new ArrayList<>();
      for (String t : tokens) {
        if (!t.equals(";")) { clause.add(t); continue; }
        String[] c = clause.toArray(new String[0]);
        clauses.add(c);
        String[] law = Arrays.copyOfRange(c, 1, c.length);
        if (c[0].equals("fades")) fades = law;
        if (c[0].equals("felt")) felt = law;
        clause.clear();
      }
    }

    void findFault() {
      Recogniser r = new Recogniser();
      Judge judge = new Judge();
      for (int i = 0; i < tokens.size(); i++) {
        String t = tokens.get(i);
        int found = !r.takes(Recogniser.kind(t)) ? 1 : judge.of(t);
        if (found != 0) { fault = found; place = places.get(i); return; }
      }
      if (!r.isWhole()) { fault = 1; place = places.get(tokens.size()); }
    }
  }

  /** The faults beside the first, for tokens that can stand where they are. */
  static final class Judge {
    String clause = null;
    int clauses = 0, numbers = 0;
    final Set<String> laws = new LinkedHashSet<>();
    final List<String> open = new ArrayList<>();
    String before = "";

    int of(String t) {
      int fault = 0;
      boolean starts = clause == null;
      if (starts) {
        clause = t;
        clauses++;
        numbers = 0;
        if (clauses > 24) fault = 6;
        if (t.startsWith("f") && !laws.add(t)) fault = 4;
      } else if (t.equals(";")) {
        clause = null;
        open.clear();
      } else if (Character.isDigit(t.charAt(0))) {
        fault = number(new java.math.BigInteger(t));
        oneEnds();
      } else fault = inLaw(t);
      before = starts ? "start" : t;
      return fault;
    }

    int number(java.math.BigInteger big) {
      int n = big.bitLength() > 30 ? 1000000 : big.intValue();
      numbers++;
      boolean good;
      switch (clause) {
        case "diner": good = n >= 1 && n <= 9; break;
        case "card": case "eat": good = n <= (numbers == 1 ? 5 : 7); break;
        case "smith": case "polish": good = n <= 7; break;
        case "day": good = n >= 1 && n <= 60; break;
        default: good = n <= 9999;
      }
      return good ? 0 : 2;
    }

    int inLaw(String t) {
      boolean behindOne = before.matches("[0-9]+|\\)|end|day|spoon|mouth|strong|deep|layers|diner|feels");
      switch (t) {
        case "(": case "not": case "gives": case "top": case "if": return opens(t);
        case "-": return behindOne ? 0 : opens(t);
        case ")": closes("("); oneEnds(); return 0;
        case "end": closes("if"); oneEnds(); return 0;
        case "and": case "or": case "then": asksEnd(); return 0;
        case "layers": oneEnds(); return clause.equals("felt") ? 5 : 0;
        case "diner": case "feels": oneEnds(); return clause.equals("fades") ? 5 : 0;
        case "day": case "spoon": case "mouth": case "strong": case "deep": oneEnds(); return 0;
        default: return 0;
      }
    }

    String last() { return open.isEmpty() ? "" : open.get(open.size() - 1); }
    int opens(String t) { open.add(t); return open.size() > 8 ? 3 : 0; }
    void oneEnds() { while (last().matches("-|gives|top")) open.remove(open.size() - 1); }
    void asksEnd() { while (last().equals("not")) open.remove(open.size() - 1); }
    void closes(String what) { if (last().equals(what)) open.remove(open.size() - 1); else throw new IllegalStateException(what + " in " + open); }
  }

  /** An Earley recogniser of the document's grammar: which tokens can stand where. */
  static final class Recogniser {
    static final String[][] RULES = {
      {"TEXT"}, {"TEXT", "TEXT", "CLAUSE"},
      {"CLAUSE", "fades", "SUM", ";"}, {"CLAUSE", "felt", "SUM", ";"}, {"CLAUSE", "diner", "0", ";"},
      {"CLAUSE", "card", "0", "at", "0", ";"}, {"CLAUSE", "eat", "0", "with", "0", ";"},
      {"CLAUSE", "smith", "0", ";"}, {"CLAUSE", "polish", "0", ";"}, {"CLAUSE", "day", "0", ";"},
      {"SUM", "PRODUCT"}, {"SUM", "SUM", "+", "PRODUCT"}, {"SUM", "SUM", "-", "PRODUCT"},
      {"PRODUCT", "ONE"}, {"PRODUCT", "PRODUCT", "*", "ONE"}, {"PRODUCT", "PRODUCT", "/", "ONE"},
      {"ONE", "0"}, {"ONE", "day"}, {"ONE", "spoon"}, {"ONE", "mouth"}, {"ONE", "strong"}, {"ONE", "deep"},
      {"ONE", "layers"}, {"ONE", "diner"}, {"ONE", "feels"}, {"ONE", "(", "SUM", ")"}, {"ONE", "-", "ONE"},
      {"ONE", "gives", "ONE"}, {"ONE", "top", "ONE"}, {"ONE", "if", "EITHER", "then", "SUM", "else", "SUM", "end"},
      {"EITHER", "BOTH"}, {"EITHER", "EITHER", "or", "BOTH"}, {"BOTH", "ASK"}, {"BOTH", "BOTH", "and", "ASK"},
      {"ASK", "not", "ASK"}, {"ASK", "SUM", "<", "SUM"}, {"ASK", "SUM", "<=", "SUM"}, {"ASK", "SUM", ">", "SUM"},
      {"ASK", "SUM", ">=", "SUM"}, {"ASK", "SUM", "=", "SUM"}, {"ASK", "SUM", "#", "SUM"}};
    /** Of each place the items that stand there: a rule, how far it is, where it began. */
    final List<List<int[]>> sets = new ArrayList<>();

    Recogniser() {
      List<int[]> first = new ArrayList<>();
      first.add(new int[] {0, 1, 0});
      first.add(new int[] {1, 1, 0});
      first.add(new int[] {1, 2, 0});
      sets.add(first);
      closeOver(first);
    }

    static String kind(String token) { return Character.isDigit(token.charAt(0)) && token.charAt(0) < 128 ? "0" : token; }

    boolean takes(String kind) {
      List<int[]> after = new ArrayList<>();
      for (int[] item : sets.get(sets.size() - 1)) {
        String[] rule = RULES[item[0]];
        if (item[1] < rule.length && rule[item[1]].equals(kind)) after.add(new int[] {item[0], item[1] + 1, item[2]});
      }
      sets.add(after);
      closeOver(after);
      return !after.isEmpty();
    }

    boolean isWhole() {
      return sets.get(sets.size() - 1).stream().anyMatch(i -> RULES[i[0]][0].equals("TEXT") && i[1] == RULES[i[0]].length && i[2] == 0);
    }

    void closeOver(List<int[]> set) {
      int here = sets.size() - 1;
      for (int k = 0; k < set.size(); k++) {
        int[] item = set.get(k);
        String[] rule = RULES[item[0]];
        if (item[1] == rule.length) {
          for (int[] waiting : new ArrayList<>(sets.get(item[2]))) {
            String[] other = RULES[waiting[0]];
            if (waiting[1] < other.length && other[waiting[1]].equals(rule[0])) add(set, waiting[0], waiting[1] + 1, waiting[2]);
          }
        } else {
          for (int r = 2; r < RULES.length; r++) if (RULES[r][0].equals(rule[item[1]])) add(set, r, 1, here);
        }
      }
    }

    static void add(List<int[]> set, int rule, int at, int from) {
      for (int[] i : set) if (i[0] == rule && i[1] == at && i[2] == from) return;
      set.add(new int[] {rule, at, from});
    }
  }

  /** Reckons a law from its tokens, from the left. */
  static final class Reckoner {
    static final List<String> NAMES = List.of("day", "spoon", "mouth", "strong", "deep", "layers", "diner", "feels");
    final Model model;
    final Model.State state;
    final String[] tokens;
    final int[] names;
    int at = 0;

    Reckoner(Model model, Model.State state, String[] tokens, int[] names) {
      this.model = model;
      this.state = state;
      this.tokens = tokens;
      this.names = names;
    }

    int all() {
      long v = sum();
      if (at != tokens.length) throw new IllegalStateException("not all of " + Arrays.toString(tokens));
      return (int) v;
    }

    boolean is(String t) { return at < tokens.length && tokens[at].equals(t); }
    static long held(long v) { return Math.max(-1000000, Math.min(1000000, v)); }

    long sum() {
      long v = product();
      while (is("+") || is("-")) v = held(tokens[at++].equals("+") ? v + product() : v - product());
      return v;
    }

    long product() {
      long v = one();
      while (is("*") || is("/")) {
        boolean times = tokens[at++].equals("*");
        long w = one();
        v = held(times ? v * w : w == 0 ? 0 : v / w);
      }
      return v;
    }

    long one() {
      String t = tokens[at++];
      if (Character.isDigit(t.charAt(0))) return Integer.parseInt(t);
      if (NAMES.contains(t)) return names[NAMES.indexOf(t)];
      switch (t) {
        case "(": { long v = sum(); at++; return v; }
        case "-": return -one();
        case "gives": { long v = one(); return v >= 0 && v < model.gives.size() ? model.gives.get((int) v) : 0; }
        case "top": {
          long v = one();
          return v < 0 || v > 7 || state.spoons.get((int) v).isEmpty() ? 0 : 1 + state.spoons.get((int) v).get(0).mouth; }
        default: {
          boolean asked = either();
          at++;
          long yes = sum();
          at++;
          long no = sum();
          at++;
          return asked ? yes : no; }
      }
    }

    boolean either() { boolean b = both(); while (is("or")) { at++; b |= both(); } return b; }
    boolean both() { boolean b = ask(); while (is("and")) { at++; b &= ask(); } return b; }

    boolean ask() {
      if (is("not")) { at++; return !ask(); }
      long a = sum();
      String t = tokens[at++];
      long b = sum();
      switch (t) {
        case "<": return a < b;
        case "<=": return a <= b;
        case ">": return a > b;
        case ">=": return a >= b;
        case "=": return a == b;
        default: return a != b;
      }
    }
  }
}
