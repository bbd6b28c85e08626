/**
 * The town's set of spoons, which remember who has had them: layers of mouths that fade, diners by
 * what they give and feel, laws in a small language, dinners, steps taken back, and questions about
 * all of it. Every call answers with a number or a boolean; none throws.
 */
public final class SpoonSet {
    /** None. */
    public static final int NONE = -1;

    private static final int OTHERS = -2;
    private static final int NOT_FELT = -10000;
    private static final int NO_FEELING = -100;
    private static final int NO_GAME = -1000;
    private static final int NOTHING_SUCH = -100000;

    private static final int SPOONS = 8;
    private static final int TRAYS = 256;
    private static final int MOST_LAYERS = 5;
    private static final int MOST_STRONG = 99;
    private static final int DINERS = 6;
    private static final int MOST_GIVES = 9;
    private static final int MOST_FEELS = 9;
    private static final int MOST_MOOD = 99999;
    private static final int LAST_DINNER = 9999;
    private static final int MOST_DAYS = 60;
    private static final int MOST_SEED = 9999;
    private static final int MOST_YEARS = 40;
    private static final int FIRST_X = 461;
    /** Of so many draws at a dinner one says that the diner stays away. */
    private static final int AWAY_BY = 8;
    private static final int MOST_STEPS = 30;
    private static final int MOST_CLUES = 6;
    private static final int MOST_TESTS = 8;
    private static final int MOST_SAID = 8;
    private static final int MOST_TASTE = 999;
    private static final int MOST_VALUE = 99;
    private static final int HOUSES = 8;
    private static final int MOST_GOES = 1000000;
    /** The lcm of 1 .. 8: after so many moves every round of houses is back where it was. */
    private static final int ALL_ROUNDS = 840;

    private static final int BOOK_LINES = 25;
    private static final int LINE_CELLS = 4;
    private static final int BOOK_EATEN = 0;
    private static final int BOOK_SMITH = 1;
    private static final int BOOK_POLISHED = 2;

    private static final int MOST_TEXTS = 4;
    private static final int MOST_BYTES = 300;
    private static final int FEED_BYTES = 20;
    private static final int MOST_CLAUSES = 24;
    private static final int MOST_OPEN = 8;
    private static final int MOST_NUMBER = 9999;
    private static final int MOST_RESULT = 1000000;
    private static final int MOST_FADES = 9;
    private static final int MOST_FELT = 99;

    private static final int CANNOT_STAND = 1;
    private static final int WRONG_NUMBER = 2;
    private static final int TOO_DEEP = 3;
    private static final int LAW_AGAIN = 4;
    private static final int WRONG_NAME = 5;
    private static final int TOO_MANY = 6;

    /** A word's kind is its place here; those up to day begin a clause. */
    private static final String WORDS = "fades felt diner card eat smith polish day at with gives top if then else end or and not spoon mouth strong deep layers feels ";
    private static final int FADES = 0;
    private static final int FELT = 1;
    private static final int DINER = 2;
    private static final int CARD = 3;
    private static final int EAT = 4;
    private static final int SMITH = 5;
    private static final int POLISH = 6;
    private static final int DAY = 7;
    private static final int AT = 8;
    private static final int WITH = 9;
    private static final int GIVES = 10;
    private static final int TOP = 11;
    private static final int IF = 12;
    private static final int THEN = 13;
    private static final int ELSE = 14;
    private static final int END = 15;
    private static final int OR = 16;
    private static final int AND = 17;
    private static final int NOT = 18;
    private static final int SPOON = 19;
    private static final int MOUTH = 20;
    private static final int STRONG = 21;
    private static final int DEEP = 22;
    private static final int LAYERS = 23;
    private static final int FEELS = 24;
    private static final int WORD_KINDS = 25;

    /** The kinds of the signs of one byte follow in this order from PLUS on. */
    private static final String SIGNS = "+-*/()<>=#;";
    private static final int PLUS = 25;
    private static final int MINUS = 26;
    private static final int TIMES = 27;
    private static final int OVER = 28;
    private static final int OPEN = 29;
    private static final int CLOSE = 30;
    private static final int LESS = 31;
    private static final int MORE = 32;
    private static final int ALIKE = 33;
    private static final int UNLIKE = 34;
    private static final int STOP = 35;
    private static final int AT_MOST = 36;
    private static final int AT_LEAST = 37;
    private static final int NUMBER = 38;
    private static final int TEXT_END = 39;
    private static final int NO_TOKEN = 40;
    /** Only in code, never read: the minus of one ONE. */
    private static final int NEGATE = 41;

    /** By the kind of a clause: what its first number may be. */
    private static final int[] LEAST_TOLD = {0, 0, 1, 0, 0, 0, 0, 1};
    private static final int[] MOST_TOLD = {0, 0, MOST_GIVES, DINERS - 1, DINERS - 1, SPOONS - 1, SPOONS - 1, MOST_DAYS};

    private final World now = new World();
    private final World kept = new World();
    /** Where what comes is tried, so that the table itself stays as it is. */
    private final Table ahead = new Table();
    private final Tape tape = new Tape();
    /** One more than there can be texts: the last has no clauses and rules while none is told. */
    private final Script[] scripts = new Script[MOST_TEXTS + 1];
    private final Reader reader = new Reader(tape);
    private final Dining dining = new Dining(now.guests);
    private final Laying laying = new Laying();
    private final Game hostesses = new Game();

    /** Eight new spoons; the image is this. */
    public SpoonSet() {
        for (int i = 0; i < scripts.length; i++) {
            scripts[i] = new Script();
        }
    }

    // ---- what is told

    public int diner(int gives) {
        return now.guests.welcome(gives);
    }

    public boolean feel(int diner, int mouth, int feels) {
        Guests guests = now.guests;
        if (!guests.has(diner) || !guests.has(mouth) || diner == mouth) {
            return false;
        }
        if (!isWithin(feels, -MOST_FEELS, MOST_FEELS)) {
            return false;
        }
        guests.feelings[diner * DINERS + mouth] = feels;
        return true;
    }

    public boolean card(int diner, int spoon) {
        if (!now.guests.has(diner) || !isWithin(spoon, NONE, SPOONS - 1)) {
            return false;
        }
        now.guests.cards[diner] = spoon;
        return true;
    }

    // ---- the tape and the texts

    public int feed(int a, int b, int c, int d, int e) {
        if (tape.length + FEED_BYTES > MOST_BYTES) {
            return NONE;
        }
        tape.addFour(a);
        tape.addFour(b);
        tape.addFour(c);
        tape.addFour(d);
        tape.addFour(e);
        return tape.length;
    }

    public int end(int n) {
        if (!isWithin(n, 0, tape.length)) {
            return NONE;
        }
        tape.length = n;
        return n;
    }

    /**
     * Reads into the first script that is free. One that an image holds is never written over: texts
     * only grow in number from an image on, so the image's are the first ones still.
     */
    public int text() {
        int number = now.texts;
        if (!isWithin(number, 0, MOST_TEXTS - 1)) {
            return NONE;
        }
        boolean good = reader.read(scripts[number]);
        tape.length = 0;
        if (!good) {
            return NONE;
        }
        now.texts = number + 1;
        return number;
    }

    public int fault(int what) {
        switch (what) {
            case 0:
                return reader.fault;
            case 1:
                return reader.faultPlace;
            default:
                return NONE;
        }
    }

    public boolean by(int text) {
        if (text != NONE && !isText(text)) {
            return false;
        }
        now.ruling = text;
        return true;
    }

    // ---- steps

    public int eat(int diner, int spoon) {
        if (!now.guests.has(diner) || !isSpoon(spoon)) {
            return NOT_FELT;
        }
        now.keepStep();
        return dining.eatAt(rulingScript(), now.table, diner, spoon);
    }

    public int smith(int spoon) {
        if (!hasLayers(spoon)) {
            return NONE;
        }
        now.keepStep();
        return now.table.takeLowest(spoon);
    }

    public int polish(int spoon) {
        if (!hasLayers(spoon)) {
            return NONE;
        }
        now.keepStep();
        return now.table.polishTop(spoon);
    }

    public int day(int n) {
        if (!isWithin(n, 1, MOST_DAYS) || n > LAST_DINNER - now.table.dinner) {
            return NONE;
        }
        return passDinners(n);
    }

    public int played(int text) {
        if (!isText(text)) {
            return OTHERS;
        }
        Script script = scripts[text];
        for (int i = 0; i < script.clauses; i++) {
            if (!doClause(script.kinds[i], script.firsts[i], script.seconds[i])) {
                return i;
            }
        }
        return NONE;
    }

    public int years(int seed, int n) {
        if (!isWithin(seed, 0, MOST_SEED) || !isWithin(n, 1, MOST_YEARS)) {
            return NONE;
        }
        now.keepStep();
        now.table.x = seed * 2 + FIRST_X;
        for (int i = 0; i < n; i++) {
            passDraw();
        }
        return now.table.dinner;
    }

    public int undo() {
        return now.takeBack() ? now.steps : NONE;
    }

    // ---- how it stands

    public int of(int diner, int what) {
        Guests guests = now.guests;
        if (!guests.has(diner)) {
            return OTHERS;
        }
        switch (what) {
            case 0:
                return guests.gives[diner];
            case 1:
                return guests.cards[diner];
            case 2:
                return now.table.layersOf(diner);
            case 3:
                return strongInAll(diner);
            default:
                return OTHERS;
        }
    }

    public int feels(int diner, int mouth) {
        if (!now.guests.has(diner) || !now.guests.has(mouth)) {
            return NO_FEELING;
        }
        return now.guests.feelings[diner * DINERS + mouth];
    }

    public int layers(int spoon) {
        return isSpoon(spoon) ? now.table.heights[spoon] : NONE;
    }

    public int layer(int spoon, int i, int what) {
        if (!isLayer(spoon, i)) {
            return NONE;
        }
        switch (what) {
            case 0:
                return now.table.mouthAt(spoon, i);
            case 1:
                return now.table.strongAt(spoon, i);
            case 2:
                return dining.laws.fadesOf(rulingScript(), now.table, spoon, i);
            default:
                return NONE;
        }
    }

    public int is(int what) {
        switch (what) {
            case 0:
                return now.table.dinner;
            case 1:
                return now.table.x;
            case 2:
                return now.table.mood;
            case 3:
                return emptySpoons();
            case 4:
                return strongOfAll();
            default:
                return NOTHING_SUCH;
        }
    }

    public int book(int i, int what) {
        Table table = now.table;
        if (i == NONE) {
            return table.written;
        }
        if (!isWithin(i, 0, table.written - 1) || !isWithin(what, 0, LINE_CELLS - 1)) {
            return OTHERS;
        }
        return table.lines[i * LINE_CELLS + what];
    }

    // ---- what comes, and layings

    public int foretold(int n, int spoon) {
        if (!isWithin(n, 1, MOST_DAYS) || !isSpoon(spoon)) {
            return NONE;
        }
        ahead.become(now.table);
        Script law = rulingScript();
        int passing = Math.min(n, LAST_DINNER - ahead.dinner);
        for (int i = 0; i < passing; i++) {
            dining.dineOnce(law, ahead);
        }
        return ahead.strongOn(spoon);
    }

    public int tastes(int diner, int spoon) {
        if (!now.guests.has(diner) || !isSpoon(spoon)) {
            return NOT_FELT;
        }
        return dining.laws.tasteOf(rulingScript(), now.table, diner, spoon);
    }

    public int best(boolean worst) {
        int sign = worst ? -1 : 1;
        return sign * reckonLayings(sign);
    }

    public int laid(int diner) {
        if (!now.guests.has(diner)) {
            return NONE;
        }
        reckonLayings(1);
        return laying.spoonOf(diner);
    }

    public int layings() {
        reckonLayings(1);
        return laying.asGood();
    }

    // ---- mouths on spoons

    public int rid(int spoon, int mouth) {
        if (!isSpoon(spoon) || !now.guests.has(mouth)) {
            return NONE;
        }
        int height = now.table.heights[spoon];
        for (int deep = 0; deep < height; deep++) {
            if (now.table.mouthAt(spoon, deep) == mouth) {
                return height - deep;
            }
        }
        return 0;
    }

    public int alone(int mouth) {
        if (!now.guests.has(mouth)) {
            return NONE;
        }
        int spoons = 0;
        for (int spoon = 0; spoon < SPOONS; spoon++) {
            if (now.table.mouthsOn(spoon) == 1 << mouth) {
                spoons |= 1 << spoon;
            }
        }
        return spoons;
    }

    public int strongest(int mouth) {
        if (!now.guests.has(mouth)) {
            return NONE;
        }
        int found = NONE;
        int most = 0;
        for (int spoon = 0; spoon < SPOONS; spoon++) {
            int strong = now.table.strongOf(spoon, mouth);
            if (strong > most) {
                most = strong;
                found = spoon;
            }
        }
        return found;
    }

    public int thin(int strong) {
        if (!isWithin(strong, 0, MOST_STRONG)) {
            return NONE;
        }
        int thin = 0;
        for (int spoon = 0; spoon < SPOONS; spoon++) {
            for (int deep = 0; deep < now.table.heights[spoon]; deep++) {
                if (now.table.strongAt(spoon, deep) <= strong) {
                    thin++;
                }
            }
        }
        return thin;
    }

    public int lasts(int spoon, int i) {
        if (!isLayer(spoon, i)) {
            return NONE;
        }
        ahead.become(now.table);
        int watched = ahead.heights[spoon] - 1 - i;
        for (int n = 1; n <= MOST_DAYS; n++) {
            watched = fadeWatching(spoon, watched);
            if (watched == NONE) {
                return n;
            }
        }
        return NONE;
    }

    // ---- which spoon it was, and where mouths meet

    public int clue(int deep, int mouth) {
        if (deep == NONE) {
            return now.clues.forget();
        }
        boolean known = mouth == NONE || now.guests.has(mouth);
        if (!known || !isWithin(deep, 0, MOST_LAYERS - 1)) {
            return OTHERS;
        }
        return now.clues.note(deep, mouth, 0);
    }

    public int which() {
        int spoons = 0;
        for (int spoon = 0; spoon < SPOONS; spoon++) {
            if (fitsClues(spoon)) {
                spoons |= 1 << spoon;
            }
        }
        return spoons;
    }

    public int ask() {
        int spoons = which();
        if (Integer.bitCount(spoons) < 2) {
            return NONE;
        }
        int found = NONE;
        int fewest = SPOONS + 1;
        for (int deep = 0; deep < MOST_LAYERS; deep++) {
            int alike = mostAlike(spoons, deep);
            if (alike < fewest) {
                fewest = alike;
                found = deep;
            }
        }
        return found;
    }

    public int where(int mouth) {
        return now.guests.has(mouth) ? now.table.spoonsWith(1 << mouth) : NONE;
    }

    public int meets(int a, int b) {
        if (!now.guests.has(a) || !now.guests.has(b)) {
            return NONE;
        }
        return now.table.spoonsWith(1 << a | 1 << b);
    }

    public int link(int a, int b) {
        if (!now.guests.has(a) || !now.guests.has(b)) {
            return NONE;
        }
        int reached = 1 << a;
        for (int spoons = 0; spoons < DINERS; spoons++) {
            if ((reached >> b & 1) == 1) {
                return spoons;
            }
            reached = now.table.sharingWith(reached);
        }
        return NONE;
    }

    // ---- the thief

    public int test(int diners, boolean thief) {
        if (diners == NONE) {
            return now.tests.forget();
        }
        if (!isWithin(diners, 0, (1 << now.guests.count) - 1)) {
            return OTHERS;
        }
        return now.tests.note(diners, thief ? 1 : 0, 0);
    }

    public int suspects(int wrong) {
        if (!isWithin(wrong, 0, MOST_TESTS)) {
            return NONE;
        }
        int diners = 0;
        for (int diner = 0; diner < now.guests.count; diner++) {
            if (wrongTests(diner) <= wrong) {
                diners |= 1 << diner;
            }
        }
        return diners;
    }

    public int surest() {
        int found = NONE;
        int fewest = MOST_TESTS + 1;
        for (int diner = 0; diner < now.guests.count; diner++) {
            int wrong = wrongTests(diner);
            if (wrong < fewest) {
                fewest = wrong;
                found = diner;
            }
        }
        return found;
    }

    // ---- houses

    public boolean house(int house, int next) {
        if (!isHouse(house) || !isHouse(next)) {
            return false;
        }
        now.nextHouse[house] = next;
        return true;
    }

    public int goes(int house, int n) {
        if (!isHouse(house) || !isWithin(n, 0, MOST_GOES)) {
            return NONE;
        }
        int moves = n <= HOUSES ? n : HOUSES + (n - HOUSES) % ALL_ROUNDS;
        int at = house;
        for (int i = 0; i < moves; i++) {
            at = now.nextHouse[at];
        }
        return at;
    }

    public int meet(int a, int b) {
        if (!isHouse(a) || !isHouse(b)) {
            return NONE;
        }
        int one = a;
        int other = b;
        for (int n = 0; n <= HOUSES * HOUSES; n++) {
            if (one == other) {
                return n;
            }
            one = now.nextHouse[one];
            other = now.nextHouse[other];
        }
        return NONE;
    }

    public int comes(int house) {
        if (!isHouse(house)) {
            return NONE;
        }
        int houses = 0;
        for (int from = 0; from < HOUSES; from++) {
            if (goesThrough(from, house)) {
                houses |= 1 << from;
            }
        }
        return houses;
    }

    // ---- the game of picking

    public boolean value(int spoon, int mine, int yours) {
        if (!isSpoon(spoon) || !isWithin(mine, 0, MOST_VALUE) || !isWithin(yours, 0, MOST_VALUE)) {
            return false;
        }
        now.mine[spoon] = mine;
        now.yours[spoon] = yours;
        return true;
    }

    public int game(int tray) {
        if (!isWithin(tray, 0, TRAYS - 1)) {
            return NO_GAME;
        }
        return hostesses.reckonTray(tray, now.mine, now.yours);
    }

    public int pick(int tray) {
        if (!isWithin(tray, 1, TRAYS - 1)) {
            return NONE;
        }
        hostesses.reckonTray(tray, now.mine, now.yours);
        return hostesses.firstPick(tray, now.mine);
    }

    // ---- whose law it was

    public int said(int diner, int spoon, int tastes) {
        if (diner == NONE) {
            return now.sayings.forget();
        }
        if (!now.guests.has(diner) || !isSpoon(spoon) || !isWithin(tastes, -MOST_TASTE, MOST_TASTE)) {
            return OTHERS;
        }
        return now.sayings.note(diner, spoon, tastes);
    }

    public int whose() {
        int texts = 0;
        for (int text = 0; text < now.texts; text++) {
            if (isText(text) && tastesAsSaid(scripts[text])) {
                texts |= 1 << text;
            }
        }
        return texts;
    }

    // ---- who stands out

    public int gladdest() {
        int found = NONE;
        int most = 0;
        for (int spoon = 0; spoon < SPOONS; spoon++) {
            int strong = now.table.strongOn(spoon);
            if (strong > most) {
                most = strong;
                found = spoon;
            }
        }
        return found;
    }

    public int loved(int diner) {
        if (!now.guests.has(diner)) {
            return NONE;
        }
        int found = NONE;
        int most = 0;
        for (int mouth = 0; mouth < now.guests.count; mouth++) {
            int feeling = now.guests.feelings[diner * DINERS + mouth];
            if (feeling > most) {
                most = feeling;
                found = mouth;
            }
        }
        return found;
    }

    public int feud(boolean second) {
        int found = NONE;
        int least = 0;
        for (int one = 0; one < now.guests.count; one++) {
            for (int other = one + 1; other < now.guests.count; other++) {
                int both = now.guests.feelings[one * DINERS + other] + now.guests.feelings[other * DINERS + one];
                if (both < least) {
                    least = both;
                    found = second ? other : one;
                }
            }
        }
        return found;
    }

    public int eldest() {
        int found = NONE;
        int most = 0;
        for (int mouth = 0; mouth < now.guests.count; mouth++) {
            int lowest = now.table.lowestOf(mouth);
            if (lowest > most) {
                most = lowest;
                found = mouth;
            }
        }
        return found;
    }

    public int ledger(int mouth) {
        return now.guests.has(mouth) ? now.table.linesOf(mouth) : OTHERS;
    }

    // ---- the image

    public int image() {
        kept.become(now);
        return now.table.dinner;
    }

    public int back() {
        now.become(kept);
        return now.table.dinner;
    }

    public int about(int what) {
        switch (what) {
            case 0:
                return now.guests.count;
            case 1:
                return now.texts;
            case 2:
                return now.ruling;
            case 3:
                return now.steps;
            case 4:
                return now.clues.count;
            case 5:
                return now.tests.count;
            case 6:
                return now.sayings.count;
            case 7:
                return tape.length;
            default:
                return OTHERS;
        }
    }

    // ---- what the calls above share

    private static boolean isWithin(int n, int least, int most) {
        return n >= least && n <= most;
    }

    private static boolean isSpoon(int spoon) {
        return spoon >= 0 && spoon < SPOONS;
    }

    private static boolean isHouse(int house) {
        return house >= 0 && house < HOUSES;
    }

    /** Whether a token of this kind is a name of some law. */
    private static boolean isName(int kind) {
        return kind >= SPOON && kind <= FEELS || kind == DAY || kind == DINER;
    }

    private boolean hasLayers(int spoon) {
        return isSpoon(spoon) && now.table.heights[spoon] > 0;
    }

    private boolean isLayer(int spoon, int i) {
        return isSpoon(spoon) && i >= 0 && i < now.table.heights[spoon];
    }

    private boolean isText(int text) {
        return text >= 0 && text < now.texts && text < MOST_TEXTS;
    }

    private Script rulingScript() {
        return scripts[isText(now.ruling) ? now.ruling : MOST_TEXTS];
    }

    /** How many eat in so many dinners, each of which is a step and can pass. */
    private int passDinners(int n) {
        Script law = rulingScript();
        int eating = 0;
        for (int left = n; left > 0; left--) {
            // An earlier one would be pushed out again by the steps that follow it here.
            if (left <= MOST_STEPS) {
                now.keepStep();
            }
            eating += dining.dineOnce(law, now.table);
        }
        return eating;
    }

    /** Does what a clause says; false if it can't be. */
    private boolean doClause(int kind, int first, int second) {
        switch (kind) {
            case DINER:
                return diner(first) != NONE;
            case CARD:
                return card(first, second);
            case EAT:
                return eat(first, second) != NOT_FELT;
            case SMITH:
                return smith(first) != NONE;
            case POLISH:
                return polish(first) != NONE;
            case DAY:
                int passing = Math.min(first, LAST_DINNER - now.table.dinner);
                passDinners(passing);
                return passing == first;
            default:
                return true;
        }
    }

    /** One of the draws of years, and what it says. */
    private void passDraw() {
        Table table = now.table;
        int x = table.drawX();
        int spoon = x / 6 % SPOONS;
        switch (x % 6) {
            case 0:
            case 1:
                int diner = x / 6 % DINERS;
                if (now.guests.has(diner)) {
                    dining.eatAt(rulingScript(), table, diner, x % SPOONS);
                }
                break;
            case 2:
                if (x % 4 == 0 && hasLayers(spoon)) {
                    table.takeLowest(spoon);
                }
                break;
            case 3:
                if (x % 4 == 1 && hasLayers(spoon)) {
                    table.polishTop(spoon);
                }
                break;
            default:
                if (table.dinner < LAST_DINNER) {
                    dining.dineOnce(rulingScript(), table);
                }
                break;
        }
    }

    private int strongInAll(int mouth) {
        int strong = 0;
        for (int spoon = 0; spoon < SPOONS; spoon++) {
            strong += now.table.strongOf(spoon, mouth);
        }
        return strong;
    }

    private int strongOfAll() {
        int strong = 0;
        for (int spoon = 0; spoon < SPOONS; spoon++) {
            strong += now.table.strongOn(spoon);
        }
        return strong;
    }

    private int emptySpoons() {
        int spoons = 0;
        for (int spoon = 0; spoon < SPOONS; spoon++) {
            if (now.table.heights[spoon] == 0) {
                spoons |= 1 << spoon;
            }
        }
        return spoons;
    }

    /** What is felt by the best laying, all that is felt being taken by this sign. */
    private int reckonLayings(int sign) {
        Script law = rulingScript();
        for (int diner = 0; diner < now.guests.count; diner++) {
            for (int spoon = 0; spoon < SPOONS; spoon++) {
                int taste = dining.laws.tasteOf(law, now.table, diner, spoon);
                laying.felt[diner * SPOONS + spoon] = sign * taste;
            }
        }
        return laying.reckonFor(now.guests.count);
    }

    /** One dinner that nobody eats at, tried; where the watched layer of a spoon is then, from below. */
    private int fadeWatching(int spoon, int watched) {
        Script law = rulingScript();
        int left = watched;
        for (int each = 0; each < SPOONS; each++) {
            int moved = dining.fadeSpoon(law, ahead, each, each == spoon ? watched : NONE);
            if (each == spoon) {
                left = moved;
            }
        }
        ahead.dinner++;
        return left;
    }

    private boolean fitsClues(int spoon) {
        for (int i = 0; i < now.clues.count; i++) {
            if (now.table.mouthAt(spoon, now.clues.told(i, 0)) != now.clues.told(i, 1)) {
                return false;
            }
        }
        return true;
    }

    /** How many of these spoons would answer alike, at the most, if one asked so deep. */
    private int mostAlike(int spoons, int deep) {
        int most = 0;
        for (int mouth = NONE; mouth < DINERS; mouth++) {
            int alike = 0;
            for (int spoon = 0; spoon < SPOONS; spoon++) {
                if ((spoons >> spoon & 1) == 1 && now.table.mouthAt(spoon, deep) == mouth) {
                    alike++;
                }
            }
            most = Math.max(most, alike);
        }
        return most;
    }

    private int wrongTests(int diner) {
        int wrong = 0;
        for (int i = 0; i < now.tests.count; i++) {
            if ((now.tests.told(i, 0) >> diner & 1) != now.tests.told(i, 1)) {
                wrong++;
            }
        }
        return wrong;
    }

    private boolean goesThrough(int from, int house) {
        int at = from;
        for (int i = 0; i < HOUSES; i++) {
            if (at == house) {
                return true;
            }
            at = now.nextHouse[at];
        }
        return false;
    }

    private boolean tastesAsSaid(Script law) {
        for (int i = 0; i < now.sayings.count; i++) {
            int taste = dining.laws.tasteOf(law, now.table, now.sayings.told(i, 0), now.sayings.told(i, 1));
            if (taste != now.sayings.told(i, 2)) {
                return false;
            }
        }
        return true;
    }

    /** All that an image holds. It is made once and copied over, so that no call makes anything. */
    private static final class World {
        final Table table = new Table();
        /** A ring: the tables as they were ahead of each step that can be taken back. */
        private final Table[] past = new Table[MOST_STEPS];
        private int oldest;
        int steps;
        final Guests guests = new Guests();
        int texts;
        int ruling = NONE;
        final Notes clues = new Notes(MOST_CLUES);
        final Notes tests = new Notes(MOST_TESTS);
        final Notes sayings = new Notes(MOST_SAID);
        final int[] nextHouse = new int[HOUSES];
        final int[] mine = new int[SPOONS];
        final int[] yours = new int[SPOONS];

        World() {
            for (int i = 0; i < MOST_STEPS; i++) {
                past[i] = new Table();
            }
            for (int i = 0; i < HOUSES; i++) {
                nextHouse[i] = i;
            }
        }

        void become(World other) {
            table.become(other.table);
            for (int i = 0; i < MOST_STEPS; i++) {
                past[i].become(other.past[i]);
            }
            oldest = other.oldest;
            steps = other.steps;
            guests.become(other.guests);
            texts = other.texts;
            ruling = other.ruling;
            clues.become(other.clues);
            tests.become(other.tests);
            sayings.become(other.sayings);
            System.arraycopy(other.nextHouse, 0, nextHouse, 0, HOUSES);
            System.arraycopy(other.mine, 0, mine, 0, SPOONS);
            System.arraycopy(other.yours, 0, yours, 0, SPOONS);
        }

        /** Called ahead of a step: the table as it is can be gone back to. */
        void keepStep() {
            past[(oldest + steps) % MOST_STEPS].become(table);
            if (steps < MOST_STEPS) {
                steps++;
            } else {
                oldest = (oldest + 1) % MOST_STEPS;
            }
        }

        boolean takeBack() {
            if (steps <= 0) {
                return false;
            }
            steps--;
            table.become(past[(oldest + steps) % MOST_STEPS]);
            return true;
        }
    }

    /** What a step changes: the layers of all spoons, mood, dinner, X and the book. */
    private static final class Table {
        /** Each spoon's layers from the lowest up, so that what is above comes down by moving. */
        private final int[] mouths = new int[SPOONS * MOST_LAYERS];
        private final int[] strongs = new int[SPOONS * MOST_LAYERS];
        final int[] heights = new int[SPOONS];
        final int[] lines = new int[BOOK_LINES * LINE_CELLS];
        int written;
        int mood;
        int dinner;
        int x = FIRST_X;

        void become(Table other) {
            System.arraycopy(other.mouths, 0, mouths, 0, mouths.length);
            System.arraycopy(other.strongs, 0, strongs, 0, strongs.length);
            System.arraycopy(other.heights, 0, heights, 0, heights.length);
            System.arraycopy(other.lines, 0, lines, 0, lines.length);
            written = other.written;
            mood = other.mood;
            dinner = other.dinner;
            x = other.x;
        }

        /** X as it is; it is anew then. */
        int drawX() {
            int drawn = x;
            x = (drawn * 727 + 593) % 31051;
            return drawn;
        }

        /** Whose layer it is so deep from the top; none is beyond the lowest. */
        int mouthAt(int spoon, int deep) {
            int at = heights[spoon] - 1 - deep;
            return deep >= 0 && at >= 0 ? mouths[spoon * MOST_LAYERS + at] : NONE;
        }

        int strongAt(int spoon, int deep) {
            int at = heights[spoon] - 1 - deep;
            return deep >= 0 && at >= 0 ? strongs[spoon * MOST_LAYERS + at] : 0;
        }

        /** Held to what a layer can be; what isn't more than 0 is gone instead. */
        void setStrong(int spoon, int deep, int strong) {
            int at = heights[spoon] - 1 - deep;
            if (deep < 0 || at < 0) {
                return;
            }
            if (strong > 0) {
                strongs[spoon * MOST_LAYERS + at] = Math.min(strong, MOST_STRONG);
            } else {
                takeFrom(spoon, at);
            }
        }

        private void takeFrom(int spoon, int at) {
            int base = spoon * MOST_LAYERS;
            for (int i = at; i < heights[spoon] - 1; i++) {
                mouths[base + i] = mouths[base + i + 1];
                strongs[base + i] = strongs[base + i + 1];
            }
            heights[spoon]--;
        }

        /** A diner's mouth comes on top, or its own layer that is there is stronger. */
        void putMouth(int spoon, int diner, int gives) {
            if (mouthAt(spoon, 0) == diner) {
                setStrong(spoon, 0, strongAt(spoon, 0) + gives);
            } else {
                if (heights[spoon] >= MOST_LAYERS) {
                    takeFrom(spoon, 0);
                }
                int at = spoon * MOST_LAYERS + heights[spoon];
                mouths[at] = diner;
                strongs[at] = gives;
                heights[spoon]++;
            }
            write(BOOK_EATEN, spoon);
        }

        /** The smith: whose layer it was, of a spoon that has one. */
        int takeLowest(int spoon) {
            int whose = mouthAt(spoon, heights[spoon] - 1);
            setStrong(spoon, heights[spoon] - 1, 0);
            write(BOOK_SMITH, spoon);
            return whose;
        }

        /** How strong the top one is then, of a spoon that has one. */
        int polishTop(int spoon) {
            setStrong(spoon, 0, strongAt(spoon, 0) * 2);
            write(BOOK_POLISHED, spoon);
            return strongAt(spoon, 0);
        }

        private void write(int what, int spoon) {
            if (written >= BOOK_LINES) {
                System.arraycopy(lines, LINE_CELLS, lines, 0, lines.length - LINE_CELLS);
                written = BOOK_LINES - 1;
            }
            int at = written * LINE_CELLS;
            lines[at] = dinner;
            lines[at + 1] = what;
            lines[at + 2] = spoon;
            lines[at + 3] = mouthAt(spoon, 0);
            written++;
        }

        int linesOf(int mouth) {
            int found = 0;
            for (int i = 0; i < written; i++) {
                if (lines[i * LINE_CELLS + 3] == mouth) {
                    found++;
                }
            }
            return found;
        }

        int strongOn(int spoon) {
            int strong = 0;
            for (int deep = 0; deep < heights[spoon]; deep++) {
                strong += strongAt(spoon, deep);
            }
            return strong;
        }

        int strongOf(int spoon, int mouth) {
            int strong = 0;
            for (int deep = 0; deep < heights[spoon]; deep++) {
                if (mouthAt(spoon, deep) == mouth) {
                    strong += strongAt(spoon, deep);
                }
            }
            return strong;
        }

        int layersOf(int mouth) {
            int found = 0;
            for (int spoon = 0; spoon < SPOONS; spoon++) {
                for (int deep = 0; deep < heights[spoon]; deep++) {
                    if (mouthAt(spoon, deep) == mouth) {
                        found++;
                    }
                }
            }
            return found;
        }

        /** Of how many spoons the lowest layer is a mouth's. */
        int lowestOf(int mouth) {
            int found = 0;
            for (int spoon = 0; spoon < SPOONS; spoon++) {
                if (mouthAt(spoon, heights[spoon] - 1) == mouth) {
                    found++;
                }
            }
            return found;
        }

        int mouthsOn(int spoon) {
            int found = 0;
            for (int deep = 0; deep < heights[spoon]; deep++) {
                found |= 1 << mouthAt(spoon, deep);
            }
            return found;
        }

        /** Spoons that have layers of all these mouths. */
        int spoonsWith(int wanted) {
            int spoons = 0;
            for (int spoon = 0; spoon < SPOONS; spoon++) {
                if ((mouthsOn(spoon) & wanted) == wanted) {
                    spoons |= 1 << spoon;
                }
            }
            return spoons;
        }

        /** These mouths and all that share a spoon with one of them. */
        int sharingWith(int reached) {
            int further = reached;
            for (int spoon = 0; spoon < SPOONS; spoon++) {
                int found = mouthsOn(spoon);
                if ((found & reached) != 0) {
                    further |= found;
                }
            }
            return further;
        }
    }

    /** The diners: what each gives, feels of others, and its card. */
    private static final class Guests {
        int count;
        final int[] gives = new int[DINERS];
        final int[] cards = new int[DINERS];
        final int[] feelings = new int[DINERS * DINERS];

        boolean has(int diner) {
            return diner >= 0 && diner < count;
        }

        int welcome(int given) {
            if (!isWithin(given, 1, MOST_GIVES) || !isWithin(count, 0, DINERS - 1)) {
                return NONE;
            }
            int diner = count;
            gives[diner] = given;
            cards[diner] = NONE;
            count++;
            return diner;
        }

        void become(Guests other) {
            count = other.count;
            System.arraycopy(other.gives, 0, gives, 0, gives.length);
            System.arraycopy(other.cards, 0, cards, 0, cards.length);
            System.arraycopy(other.feelings, 0, feelings, 0, feelings.length);
        }
    }

    /** What has been told so far of one kind, up to three numbers each. */
    private static final class Notes {
        private static final int CELLS = 3;
        private final int most;
        private final int[] cells;
        int count;

        Notes(int most) {
            this.most = most;
            this.cells = new int[most * CELLS];
        }

        int note(int a, int b, int c) {
            if (count >= most) {
                return OTHERS;
            }
            cells[count * CELLS] = a;
            cells[count * CELLS + 1] = b;
            cells[count * CELLS + 2] = c;
            count++;
            return count;
        }

        int forget() {
            count = 0;
            return count;
        }

        int told(int i, int which) {
            int at = i * CELLS + which;
            return at >= 0 && at < cells.length ? cells[at] : NONE;
        }

        void become(Notes other) {
            count = other.count;
            System.arraycopy(other.cells, 0, cells, 0, Math.min(cells.length, other.cells.length));
        }
    }

    /** Eating and fading, at the table itself or at one where what comes is tried. */
    private static final class Dining {
        private final Guests guests;
        final Laws laws;

        Dining(Guests guests) {
            this.guests = guests;
            this.laws = new Laws(guests);
        }

        int eatAt(Script law, Table table, int diner, int spoon) {
            int felt = laws.tasteOf(law, table, diner, spoon);
            table.mood = Math.max(-MOST_MOOD, Math.min(MOST_MOOD, table.mood + felt));
            table.putMouth(spoon, diner, guests.gives[diner]);
            return felt;
        }

        /** One dinner, which can pass: how many eat. */
        int dineOnce(Script law, Table table) {
            int eating = 0;
            for (int diner = 0; diner < guests.count; diner++) {
                int spoon = guests.cards[diner];
                if (isSpoon(spoon) && table.drawX() % AWAY_BY != 0) {
                    eatAt(law, table, diner, spoon);
                    eating++;
                }
            }
            for (int spoon = 0; spoon < SPOONS; spoon++) {
                fadeSpoon(law, table, spoon, NONE);
            }
            table.dinner++;
            return eating;
        }

        /** Where the layer that was watched (counted from below) is then; none: it is gone. */
        int fadeSpoon(Script law, Table table, int spoon, int watched) {
            int kept = watched;
            int deep = 0;
            for (int left = table.heights[spoon]; left > 0; left--) {
                int at = table.heights[spoon] - 1 - deep;
                int strong = table.strongAt(spoon, deep) - laws.fadesOf(law, table, spoon, deep);
                table.setStrong(spoon, deep, strong);
                if (strong > 0) {
                    deep++;
                } else if (at == kept) {
                    kept = NONE;
                } else if (at < kept) {
                    kept--;
                }
            }
            return kept;
        }
    }

    /** Asks the laws of a script, or what holds without them. */
    private static final class Laws {
        private final Guests guests;
        /** By the kind of a name: what it is now. */
        private final int[] names = new int[WORD_KINDS];
        /** A token puts at most one number on it; two cells lie below, so that any look down is safe. */
        private final int[] stack = new int[MOST_BYTES + 4];

        Laws(Guests guests) {
            this.guests = guests;
        }

        int fadesOf(Script law, Table table, int spoon, int deep) {
            if (!law.hasFades()) {
                return 1;
            }
            nameLayer(table, spoon, deep);
            names[LAYERS] = table.heights[spoon];
            int fades = run(law, law.fadesFrom, law.fadesTo, table);
            return Math.max(0, Math.min(MOST_FADES, fades));
        }

        /** What a diner would have felt of all layers that aren't its own. */
        int tasteOf(Script law, Table table, int diner, int spoon) {
            int sum = 0;
            for (int deep = 0; deep < table.heights[spoon]; deep++) {
                int mouth = table.mouthAt(spoon, deep);
                if (mouth == diner) {
                    continue;
                }
                int feels = guests.feelings[diner * DINERS + mouth];
                int felt = feels * table.strongAt(spoon, deep) / (deep + 1);
                if (law.hasFelt()) {
                    nameLayer(table, spoon, deep);
                    names[DINER] = diner;
                    names[FEELS] = feels;
                    felt = run(law, law.feltFrom, law.feltTo, table);
                }
                sum += Math.max(-MOST_FELT, Math.min(MOST_FELT, felt));
            }
            return sum;
        }

        private void nameLayer(Table table, int spoon, int deep) {
            names[DAY] = table.dinner;
            names[SPOON] = spoon;
            names[MOUTH] = table.mouthAt(spoon, deep);
            names[STRONG] = table.strongAt(spoon, deep);
            names[DEEP] = deep;
        }

        /** Jumps only go forward, so it ends with the law's code. */
        private int run(Script law, int from, int to, Table table) {
            int n = 2;
            for (int i = from; i < to && n >= 2 && n < stack.length; i++) {
                int op = law.opAt(i);
                int last = stack[n - 1];
                switch (op) {
                    case NUMBER:
                        stack[n++] = law.argumentAt(i);
                        break;
                    case NEGATE:
                        stack[n - 1] = -last;
                        break;
                    case NOT:
                        stack[n - 1] = 1 - last;
                        break;
                    case GIVES:
                        stack[n - 1] = guests.has(last) ? guests.gives[last] : 0;
                        break;
                    case TOP:
                        stack[n - 1] = isSpoon(last) ? table.mouthAt(last, 0) + 1 : 0;
                        break;
                    case THEN:
                        n--;
                        i = last == 0 ? Math.max(i, law.argumentAt(i) - 1) : i;
                        break;
                    case ELSE:
                        i = Math.max(i, law.argumentAt(i) - 1);
                        break;
                    default:
                        if (isName(op)) {
                            stack[n++] = names[op];
                        } else {
                            n--;
                            boolean sum = op >= PLUS && op <= OVER;
                            stack[n - 1] = sum ? reckoned(op, stack[n - 1], last) : holds(op, stack[n - 1], last) ? 1 : 0;
                        }
                        break;
                }
            }
            return n == 3 ? stack[2] : 0;
        }

        private static int reckoned(int op, int a, int b) {
            long result;
            switch (op) {
                case PLUS:
                    result = (long) a + b;
                    break;
                case MINUS:
                    result = (long) a - b;
                    break;
                case TIMES:
                    result = (long) a * b;
                    break;
                default:
                    result = b == 0 ? 0 : (long) a / b;
                    break;
            }
            if (result > MOST_RESULT) {
                return MOST_RESULT;
            }
            return result < -MOST_RESULT ? -MOST_RESULT : (int) result;
        }

        private static boolean holds(int op, int a, int b) {
            switch (op) {
                case LESS:
                    return a < b;
                case AT_MOST:
                    return a <= b;
                case MORE:
                    return a > b;
                case AT_LEAST:
                    return a >= b;
                case ALIKE:
                    return a == b;
                case UNLIKE:
                    return a != b;
                case OR:
                    return (a | b) != 0;
                case AND:
                    return (a & b) != 0;
                default:
                    return false;
            }
        }
    }

    /** A text that has been read: its clauses, and its laws as code for a stack. */
    private static final class Script {
        private static final int OP_BITS = 6;
        private static final int OP_MASK = 63;
        /** A token makes at most one piece of code. */
        private final int[] code = new int[MOST_BYTES];
        private int size;
        int fadesFrom;
        int fadesTo;
        int feltFrom;
        int feltTo;
        final int[] kinds = new int[MOST_CLAUSES];
        final int[] firsts = new int[MOST_CLAUSES];
        final int[] seconds = new int[MOST_CLAUSES];
        int clauses;

        void makeEmpty() {
            size = 0;
            clauses = 0;
            fadesFrom = 0;
            fadesTo = 0;
            feltFrom = 0;
            feltTo = 0;
        }

        boolean hasFades() {
            return fadesTo > fadesFrom;
        }

        boolean hasFelt() {
            return feltTo > feltFrom;
        }

        boolean hasLaw(int kind) {
            return kind == FADES && hasFades() || kind == FELT && hasFelt();
        }

        int length() {
            return size;
        }

        boolean put(int op, int argument) {
            if (size >= code.length) {
                return false;
            }
            code[size] = op | argument << OP_BITS;
            size++;
            return true;
        }

        /** The jump at this place goes to what comes next. */
        boolean aimHere(int place) {
            if (place < 0 || place >= size) {
                return false;
            }
            code[place] = code[place] & OP_MASK | size << OP_BITS;
            return true;
        }

        int opAt(int i) {
            return i >= 0 && i < size ? code[i] & OP_MASK : NO_TOKEN;
        }

        int argumentAt(int i) {
            return i >= 0 && i < size ? code[i] >> OP_BITS : 0;
        }

        void addLaw(int kind, int from) {
            if (kind == FADES) {
                fadesFrom = from;
                fadesTo = size;
            } else {
                feltFrom = from;
                feltTo = size;
            }
            addClause(kind, 0, 0);
        }

        void addClause(int kind, int first, int second) {
            if (clauses >= MOST_CLAUSES) {
                return;
            }
            kinds[clauses] = kind;
            firsts[clauses] = first;
            seconds[clauses] = second;
            clauses++;
        }
    }

    /** The tape's bytes, and the tokens that they are cut into when they are to be read. */
    private static final class Tape {
        private final int[] bytes = new int[MOST_BYTES];
        int length;
        private int next;
        /** By a token's place among all; a byte begins at most one, and the end is one more. */
        final int[] kinds = new int[MOST_BYTES + 1];
        final int[] starts = new int[MOST_BYTES + 1];
        final int[] numbers = new int[MOST_BYTES + 1];

        void addFour(int four) {
            for (int shift = 24; shift >= 0 && length < MOST_BYTES; shift -= 8) {
                bytes[length] = four >>> shift & 255;
                length++;
            }
        }

        /** All at once, ahead of reading: token by token from within a law the calls would go too deep. */
        void cutTokens() {
            next = 0;
            boolean ended = false;
            for (int token = 0; token <= MOST_BYTES && !ended; token++) {
                cutNext(token);
                ended = kinds[token] == TEXT_END;
            }
        }

        private void cutNext(int token) {
            while (next < length && (bytes[next] == ' ' || bytes[next] == '\n')) {
                next++;
            }
            starts[token] = next;
            if (next >= length) {
                kinds[token] = TEXT_END;
            } else if (isLetter(bytes[next])) {
                kinds[token] = cutWord();
            } else if (isDigit(bytes[next])) {
                kinds[token] = NUMBER;
                numbers[token] = cutDigits();
            } else {
                kinds[token] = cutSign();
            }
        }

        private static boolean isLetter(int b) {
            return b >= 'a' && b <= 'z' || b >= 'A' && b <= 'Z';
        }

        private static boolean isDigit(int b) {
            return b >= '0' && b <= '9';
        }

        private int cutWord() {
            int start = next;
            while (next < length && isLetter(bytes[next])) {
                next++;
            }
            return wordKind(start);
        }

        private int wordKind(int start) {
            int word = 0;
            int at = start;
            boolean same = true;
            for (int i = 0; i < WORDS.length(); i++) {
                char c = WORDS.charAt(i);
                if (c != ' ') {
                    same = same && at < next && bytes[at] == c;
                    at++;
                } else if (same && at == next) {
                    return word;
                } else {
                    word++;
                    at = start;
                    same = true;
                }
            }
            return NO_TOKEN;
        }

        private int cutDigits() {
            int number = 0;
            while (next < length && isDigit(bytes[next])) {
                // Held, so that a long row of digits stays one that is too much.
                number = Math.min(number * 10 + bytes[next] - '0', MOST_NUMBER + 1);
                next++;
            }
            return number;
        }

        private int cutSign() {
            int found = SIGNS.indexOf((char) bytes[next]);
            int kind = found < 0 ? NO_TOKEN : PLUS + found;
            next++;
            boolean equalFollows = next < length && bytes[next] == '=';
            if (equalFollows && (kind == LESS || kind == MORE)) {
                next++;
                return kind == LESS ? AT_MOST : AT_LEAST;
            }
            return kind;
        }
    }

    /** Reads the tape's tokens into a script, up to the first fault. */
    private static final class Reader {
        private final Tape tape;
        /** The token that is come to: its place among all, and its kind. */
        private int at;
        private int token = TEXT_END;
        private Script out = new Script();
        private int law;
        int fault = NONE;
        int faultPlace = NONE;

        Reader(Tape tape) {
            this.tape = tape;
        }

        boolean read(Script into) {
            out = into;
            out.makeEmpty();
            fault = 0;
            faultPlace = NONE;
            tape.cutTokens();
            comeTo(0);
            for (int i = 0; i <= MOST_CLAUSES && fault == 0 && token != TEXT_END; i++) {
                readClause();
            }
            return fault == 0;
        }

        private void comeTo(int place) {
            if (place >= 0 && place < tape.kinds.length) {
                at = place;
                token = tape.kinds[place];
            }
        }

        private boolean fail(int kind) {
            fault = kind;
            faultPlace = tape.starts[at];
            return false;
        }

        private boolean take(int kind) {
            if (token != kind) {
                return fail(CANNOT_STAND);
            }
            comeTo(at + 1);
            return true;
        }

        private void readClause() {
            int kind = token;
            if (kind > DAY) {
                fail(CANNOT_STAND);
            } else if (out.hasLaw(kind)) {
                fail(LAW_AGAIN);
            } else if (out.clauses >= MOST_CLAUSES) {
                fail(TOO_MANY);
            } else if (kind == FADES || kind == FELT) {
                readLaw(kind);
            } else {
                readAct(kind);
            }
        }

        private void readLaw(int kind) {
            comeTo(at + 1);
            law = kind;
            int from = out.length();
            if (readSum(0) && take(STOP)) {
                out.addLaw(kind, from);
            }
        }

        private void readAct(int kind) {
            comeTo(at + 1);
            int first = readTold(LEAST_TOLD[kind], MOST_TOLD[kind]);
            int second = 0;
            if (kind == CARD || kind == EAT) {
                boolean linked = first != NONE && take(kind == CARD ? AT : WITH);
                second = linked ? readTold(0, SPOONS - 1) : NONE;
            }
            if (first != NONE && second != NONE && take(STOP)) {
                out.addClause(kind, first, second);
            }
        }

        /** A number of a clause; none: there is a fault. */
        private int readTold(int least, int most) {
            int number = tape.numbers[at];
            if (token != NUMBER) {
                fail(CANNOT_STAND);
                return NONE;
            }
            if (!isWithin(number, least, most)) {
                fail(WRONG_NUMBER);
                return NONE;
            }
            comeTo(at + 1);
            return number;
        }

        private boolean readSum(int open) {
            boolean good = readProduct(open);
            for (int i = 0; i < MOST_BYTES && good && (token == PLUS || token == MINUS); i++) {
                int sign = token;
                comeTo(at + 1);
                good = readProduct(open) && out.put(sign, 0);
            }
            return good;
        }

        private boolean readProduct(int open) {
            boolean good = readOne(open);
            for (int i = 0; i < MOST_BYTES && good && (token == TIMES || token == OVER); i++) {
                int sign = token;
                comeTo(at + 1);
                good = readOne(open) && out.put(sign, 0);
            }
            return good;
        }

        private boolean readOne(int open) {
            int kind = token;
            if (kind == NUMBER) {
                return readNumber();
            }
            if (isName(kind)) {
                return readName();
            }
            if (kind != OPEN && kind != MINUS && kind != GIVES && kind != TOP && kind != IF) {
                return fail(CANNOT_STAND);
            }
            if (open >= MOST_OPEN) {
                return fail(TOO_DEEP);
            }
            comeTo(at + 1);
            switch (kind) {
                case OPEN:
                    return readSum(open + 1) && take(CLOSE);
                case IF:
                    return readChoice(open + 1);
                case MINUS:
                    return readOne(open + 1) && out.put(NEGATE, 0);
                default:
                    return readOne(open + 1) && out.put(kind, 0);
            }
        }

        private boolean readNumber() {
            if (tape.numbers[at] > MOST_NUMBER) {
                return fail(WRONG_NUMBER);
            }
            boolean put = out.put(NUMBER, tape.numbers[at]);
            comeTo(at + 1);
            return put;
        }

        private boolean readName() {
            int kind = token;
            boolean strange = law == FADES ? kind == DINER || kind == FEELS : kind == LAYERS;
            if (strange) {
                return fail(WRONG_NAME);
            }
            comeTo(at + 1);
            return out.put(kind, 0);
        }

        /** What follows if, up to its end. */
        private boolean readChoice(int open) {
            if (!readEither(open) || !take(THEN)) {
                return false;
            }
            int test = out.length();
            if (!out.put(THEN, 0) || !readSum(open) || !take(ELSE)) {
                return false;
            }
            int over = out.length();
            if (!out.put(ELSE, 0) || !out.aimHere(test)) {
                return false;
            }
            return readSum(open) && take(END) && out.aimHere(over);
        }

        private boolean readEither(int open) {
            boolean good = readBoth(open);
            for (int i = 0; i < MOST_BYTES && good && token == OR; i++) {
                comeTo(at + 1);
                good = readBoth(open) && out.put(OR, 0);
            }
            return good;
        }

        private boolean readBoth(int open) {
            boolean good = readAsk(open);
            for (int i = 0; i < MOST_BYTES && good && token == AND; i++) {
                comeTo(at + 1);
                good = readAsk(open) && out.put(AND, 0);
            }
            return good;
        }

        private boolean readAsk(int open) {
            if (token == NOT) {
                if (open >= MOST_OPEN) {
                    return fail(TOO_DEEP);
                }
                comeTo(at + 1);
                return readAsk(open + 1) && out.put(NOT, 0);
            }
            if (!readSum(open)) {
                return false;
            }
            int sign = token;
            boolean compares = sign >= LESS && sign <= UNLIKE || sign == AT_MOST || sign == AT_LEAST;
            if (!compares) {
                return fail(CANNOT_STAND);
            }
            comeTo(at + 1);
            return readSum(open) && out.put(sign, 0);
        }
    }

    /** All ways to lay each diner a spoon of its own, reckoned by the spoons that are laid already. */
    private static final class Laying {
        final int[] felt = new int[DINERS * SPOONS];
        private final int[] most = new int[TRAYS];
        private final int[] ways = new int[TRAYS];

        /** The most that can be felt; the first diners have the spoons laid, so their number tells who is next. */
        int reckonFor(int diners) {
            for (int laid = TRAYS - 1; laid >= 0; laid--) {
                int diner = Integer.bitCount(laid);
                if (diner < diners && diner < DINERS) {
                    reckonNext(laid, diner);
                } else {
                    most[laid] = 0;
                    ways[laid] = 1;
                }
            }
            return most[0];
        }

        private void reckonNext(int laid, int diner) {
            int best = 0;
            int count = 0;
            for (int spoon = 0; spoon < SPOONS; spoon++) {
                int then = laid | 1 << spoon;
                if (then == laid) {
                    continue;
                }
                int sum = felt[diner * SPOONS + spoon] + most[then];
                if (count == 0 || sum > best) {
                    best = sum;
                    count = ways[then];
                } else if (sum == best) {
                    count += ways[then];
                }
            }
            most[laid] = best;
            ways[laid] = count;
        }

        int asGood() {
            return ways[0];
        }

        /** Of the lowest laying that is best. */
        int spoonOf(int wanted) {
            int laid = 0;
            int spoon = NONE;
            for (int diner = 0; diner <= wanted && diner < DINERS; diner++) {
                spoon = lowestNext(laid, diner);
                laid = spoon == NONE ? laid : laid | 1 << spoon;
            }
            return spoon;
        }

        private int lowestNext(int laid, int diner) {
            for (int spoon = 0; spoon < SPOONS; spoon++) {
                int then = laid | 1 << spoon;
                if (then != laid && felt[diner * SPOONS + spoon] + most[then] == most[laid]) {
                    return spoon;
                }
            }
            return NONE;
        }
    }

    /** Two hostesses pick by turns from a tray. */
    private static final class Game {
        /** By what is left on the tray: how much more the first gets from then on. */
        private final int[] more = new int[TRAYS];

        int reckonTray(int tray, int[] mine, int[] yours) {
            int all = Integer.bitCount(tray);
            more[0] = 0;
            for (int left = 1; left <= tray; left++) {
                if ((left & ~tray) == 0) {
                    boolean first = (all - Integer.bitCount(left)) % 2 == 0;
                    more[left] = first ? mostOf(left, mine) : leastOf(left, yours);
                }
            }
            return more[tray];
        }

        private int mostOf(int left, int[] mine) {
            int most = -MOST_VALUE * SPOONS;
            for (int spoon = 0; spoon < SPOONS; spoon++) {
                if ((left >> spoon & 1) == 1) {
                    most = Math.max(most, more[left ^ 1 << spoon] + mine[spoon]);
                }
            }
            return most;
        }

        private int leastOf(int left, int[] yours) {
            int least = MOST_VALUE * SPOONS;
            for (int spoon = 0; spoon < SPOONS; spoon++) {
                if ((left >> spoon & 1) == 1) {
                    least = Math.min(least, more[left ^ 1 << spoon] - yours[spoon]);
                }
            }
            return least;
        }

        int firstPick(int tray, int[] mine) {
            for (int spoon = 0; spoon < SPOONS; spoon++) {
                if ((tray >> spoon & 1) == 1 && more[tray ^ 1 << spoon] + mine[spoon] == more[tray]) {
                    return spoon;
                }
            }
            return NONE;
        }
    }
}
