import java.util.Arrays;

/** Cheeses that are listened to in the cave: wheels, turnings, nights, plans, clues and chances. */
public final class CheeseEar {
    public static final int NONE = -1, BAD = -2, NOT = -3, FULL = -4;

    private static final int NIGHTS = 30;
    private static final int ALL_NIGHTS = (1 << NIGHTS) - 1;
    private static final int COMINGS = 20;
    private static final int MOST_WHEELS = 8;
    private static final int MOST_SOUNDS = 5;
    private static final int LETTERS = 8;
    private static final int NOTHING = 8;
    private static final int LATER_WARMTH = 5;
    private static final int MOST_TIME = 20;
    private static final int MOST_FROST_NIGHT = 9;
    private static final int SIXTEENTHS = 16;

    private static final int HARD = 0, SOFT = 1, BLUE = 2;
    private static final int AWAY = 0, HEARD = 1, OVER = 2, EATEN = 3, GONE = 4;

    private static final int SHEETS = 4;
    private static final int FORMS = 3;
    private static final int MOST_ITEMS = 60;
    private static final int NULL = 1, INDEX = 2, CAST = 3, STORE = 4, SIZE = 5;

    private static final int LEAST_INT = 1 << 31;
    private static final long LEAST_LONG = 1L << 63;

    private static final int[] DIGEST_WARM_NIGHTS = {0, 9, 19, 29};
    private static final int[] DIGEST_AT_NIGHTS = {0, 5, 12, 29};
    private static final int DIGEST_NIGHT = 12;

    private final Cellar cellar;
    private final Survey survey;
    private final Plans plans;
    private final Clues clues;
    private final Chances chances;
    private final Sheet[] sheets;
    private int latestFinding;

    public CheeseEar() {
        cellar = new Cellar();
        survey = new Survey(cellar);
        plans = new Plans(cellar);
        clues = new Clues(cellar);
        chances = new Chances(cellar);
        sheets = new Sheet[SHEETS];
        for (int s = 0; s < sheets.length; s++) {
            sheets[s] = new Sheet();
        }
    }

    // ---- wheels, the cave, turnings, knocks

    public int type(int text, int b) {
        if (!isText(text) || b < 0 || b > 255) {
            return BAD;
        }
        Text told = cellar.textOf(text);
        if (told.isFull()) {
            return FULL;
        }
        told.append(b);
        cellar.readAnew(text);
        return told.length;
    }

    public int wipe(int text) {
        if (!isText(text)) {
            return BAD;
        }
        Text told = cellar.textOf(text);
        int had = told.length;
        told.length = 0;
        cellar.readAnew(text);
        return had;
    }

    public int undo(int text) {
        if (!isText(text)) {
            return BAD;
        }
        Text told = cellar.textOf(text);
        if (told.length <= 0) {
            return NOT;
        }
        told.length--;
        cellar.readAnew(text);
        return told.length;
    }

    public int fault(int text) {
        if (!isText(text)) {
            return BAD;
        }
        return text == 0 ? cellar.wheels.firstFault : cellar.cave.firstFault;
    }

    public int wheel(int wheel, int what) {
        if (!cellar.has(wheel) || what < 0 || what > 2 + MOST_SOUNDS) {
            return BAD;
        }
        if (what == 0) {
            return cellar.wheels.sortOf(wheel);
        }
        if (what == 1) {
            return cellar.wheels.nightOf(wheel);
        }
        return what == 2 ? cellar.wheels.sizeOf(wheel) : cellar.wheels.letterOf(wheel, what - 3);
    }

    public int warm(int night) {
        return isNight(night) ? cellar.cave.warmthOn(night) : BAD;
    }

    public int set(int what, int v) {
        int was = BAD;
        if (what == 0 && v >= 1 && v <= MOST_TIME) {
            was = cellar.time;
            cellar.time = v;
        } else if (what == 1 && v >= 0 && v <= LETTERS) {
            was = cellar.shrill;
            cellar.shrill = v;
        }
        return was;
    }

    public int turning(int night, int wheel) {
        return addMark(cellar.turnings, night, wheel, NOTHING);
    }

    public int knock(int night, int wheel) {
        return addMark(cellar.knocks, night, wheel, NOTHING);
    }

    public int back(int what) {
        if (what < 0 || what > 1) {
            return BAD;
        }
        Marks marks = what == 0 ? cellar.turnings : cellar.knocks;
        if (marks.number <= 0) {
            return NOT;
        }
        marks.number--;
        return marks.number;
    }

    public int read(int s) {
        if (!isSheet(s)) {
            return BAD;
        }
        Sheet from = sheets[s];
        if (from.lost) {
            return found(NULL);
        }
        int taken = 0;
        for (int i = 0; i + 1 < from.size; i += 2) {
            if (addMark(cellar.turnings, from.itemAt(i), from.itemAt(i + 1), NOTHING) < 0) {
                return taken;
            }
            taken++;
        }
        return taken;
    }

    // ---- nights

    public int at(int night, int wheel, int what) {
        if (!isNight(night) || !cellar.has(wheel) || what < 0 || what > 2) {
            return BAD;
        }
        Trial trial = cellar.begin(wheel);
        trial.run();
        if (what == 0) {
            return trial.ageOn(night);
        }
        return what == 1 ? trial.heardOn(night) : trial.stateOn(night);
    }

    public int longs(int wheel) {
        if (!cellar.has(wheel)) {
            return BAD;
        }
        return cellar.begin(wheel).heardLong();
    }

    public int scream(int what) {
        if (what < 0 || what > 1) {
            return BAD;
        }
        survey.findScream();
        return what == 0 ? survey.screamNight : survey.screamWheel;
    }

    public int chord(int letter, int what) {
        if (letter < 0 || letter >= LETTERS || what < 0 || what > 1) {
            return BAD;
        }
        survey.tallyLetters();
        survey.findChord(letter);
        return what == 0 ? survey.chordNight : survey.chordNumber;
    }

    public int hush() {
        return survey.silentNights();
    }

    // ---- plans

    public int ripe(int wheel, int night, int i) {
        if (!cellar.has(wheel) || !isNight(night) || i < NONE || i > 1) {
            return BAD;
        }
        plans.findRipe(wheel, night);
        if (i == NONE) {
            return plans.ripeNumber;
        }
        return i == 0 ? plans.ripeFirst : plans.ripeSecond;
    }

    public int cold(int wheel, int what) {
        if (!cellar.has(wheel) || what < 0 || what > 1) {
            return BAD;
        }
        plans.findCold(wheel);
        return what == 0 ? plans.coldNight : plans.coldNumber;
    }

    public int come(int wheel, int what) {
        if (!cellar.has(wheel) || what < 0 || what > 1) {
            return BAD;
        }
        plans.findCome(wheel);
        return what == 0 ? plans.comeNight : plans.comeMoment;
    }

    public int sale() {
        return plans.bestSale();
    }

    // ---- listened, chance, summers

    public int listen(int night, int wheel, int letter) {
        if (letter < 0 || letter > NOTHING) {
            return BAD;
        }
        return addMark(cellar.listened, night, wheel, letter);
    }

    public int forget() {
        int had = cellar.listened.number;
        cellar.listened.number = 0;
        return had;
    }

    public int never() {
        return clues.neverTurnings();
    }

    public int was(int wheel, int what) {
        if (!cellar.has(wheel) || what < 0 || what > 1) {
            return BAD;
        }
        return what == 0 ? clues.fromNights(wheel) : clues.fittingSorts(wheel);
    }

    public int ask(int wheel) {
        if (!cellar.has(wheel)) {
            return BAD;
        }
        return clues.nextNight(wheel, clues.fromNights(wheel));
    }

    public long frost(int c, int last, int wheel, int night, int what) {
        boolean isTold = c >= 0 && c <= SIXTEENTHS && last >= 0 && last <= MOST_FROST_NIGHT;
        if (!isTold || !cellar.has(wheel) || !isNight(night) || what < 0 || what > 1) {
            return LEAST_LONG - BAD;
        }
        chances.findFrost(c, last, wheel, night);
        return what == 0 ? chances.above : chances.below;
    }

    public int summer(int seed, int n, int what) {
        if (n < 0 || n > NIGHTS || what < 0 || what > 1) {
            return BAD;
        }
        chances.findSummer(seed, n);
        return what == 0 ? chances.nightsTogether : chances.wheelsEaten;
    }

    // ---- sheets

    public int sheet(int s, int form, int n) {
        if (!isSheet(s) || !isForm(form) || n > MOST_ITEMS) {
            return BAD;
        }
        if (n < 0) {
            return found(SIZE);
        }
        sheets[s].renew(form, n);
        return n;
    }

    public int lose(int s) {
        if (!isSheet(s)) {
            return BAD;
        }
        if (sheets[s].lost) {
            return found(NULL);
        }
        sheets[s].lost = true;
        return sheets[s].size;
    }

    public int put(int s, int form, int i, int v) {
        if (!isSheet(s) || !isForm(form)) {
            return BAD;
        }
        int finding = findingAt(sheets[s], form, i);
        if (finding != 0) {
            return found(finding);
        }
        sheets[s].place(i, v);
        return 1;
    }

    public int get(int s, int form, int i) {
        if (!isSheet(s) || !isForm(form)) {
            return LEAST_INT;
        }
        int finding = findingAt(sheets[s], form, i);
        if (finding != 0) {
            found(finding);
            return LEAST_INT;
        }
        return sheets[s].itemAt(i);
    }

    public int copy(int s, int i, int t, int j, int n) {
        if (!isSheet(s) || !isSheet(t)) {
            return BAD;
        }
        Sheet from = sheets[s];
        Sheet to = sheets[t];
        if (from.lost || to.lost) {
            return found(NULL);
        }
        if (from.form != to.form) {
            return found(STORE);
        }
        if (!from.holds(i, n) || !to.holds(j, n)) {
            return found(INDEX);
        }
        System.arraycopy(from.items, i, to.items, j, n);
        return 1;
    }

    public int write(int wheel, int s) {
        if (!cellar.has(wheel) || !isSheet(s)) {
            return BAD;
        }
        Sheet to = sheets[s];
        if (to.lost) {
            return found(NULL);
        }
        Trial trial = cellar.begin(wheel);
        trial.run();
        int many = Math.min(to.size, NIGHTS);
        for (int night = 0; night < many; night++) {
            to.place(night, trial.heardOn(night));
        }
        return many;
    }

    public int count(int what) {
        switch (what) {
            case 0: return cellar.wheels.number;
            case 1: return cellar.cave.figures;
            case 2: return cellar.wheelText.length;
            case 3: return cellar.caveText.length;
            case 4: return cellar.turnings.number;
            case 5: return cellar.knocks.number;
            case 6: return survey.eatenWheels();
            case 7: return cellar.listened.number;
            case 8: return latestFinding;
            default: return BAD;
        }
    }

    public long digest() {
        long h = 17;
        for (int what = 0; what <= 7; what++) {
            h = 31 * h + count(what);
        }
        h = 31 * h + fault(0);
        h = 31 * h + fault(1);
        for (int i = 0; i < DIGEST_WARM_NIGHTS.length; i++) {
            h = 31 * h + warm(DIGEST_WARM_NIGHTS[i]);
        }
        for (int w = 0; w < cellar.wheels.number; w++) {
            h = mixNights(h, w);
            h = mixPlans(h, w);
            h = mixClues(h, w);
        }
        return mixAll(h);
    }

    // These take each finding's numbers together: the public calls would search anew for every one.

    private long mixNights(long before, int w) {
        long h = before;
        for (int what = 0; what <= 2 + MOST_SOUNDS; what++) {
            h = 31 * h + wheel(w, what);
        }
        Trial trial = cellar.begin(w);
        trial.run();
        for (int i = 0; i < DIGEST_AT_NIGHTS.length; i++) {
            int night = DIGEST_AT_NIGHTS[i];
            h = 31 * h + trial.ageOn(night);
            h = 31 * h + trial.heardOn(night);
            h = 31 * h + trial.stateOn(night);
        }
        return 31 * h + trial.heardLong();
    }

    private long mixPlans(long before, int w) {
        plans.findRipe(w, DIGEST_NIGHT);
        plans.findCold(w);
        plans.findCome(w);
        long h = 31 * before + plans.ripeNumber;
        h = 31 * h + plans.ripeFirst;
        h = 31 * h + plans.coldNight;
        h = 31 * h + plans.coldNumber;
        h = 31 * h + plans.comeNight;
        return 31 * h + plans.comeMoment;
    }

    private long mixClues(long before, int w) {
        int comings = clues.fromNights(w);
        long h = 31 * before + comings;
        h = 31 * h + clues.fittingSorts(w);
        h = 31 * h + clues.nextNight(w, comings);
        chances.findFrost(5, 5, w, DIGEST_NIGHT);
        h = 31 * h + chances.above;
        return 31 * h + chances.below;
    }

    private long mixAll(long before) {
        survey.findScream();
        long h = 31 * before + survey.screamNight;
        h = 31 * h + survey.screamWheel;
        survey.tallyLetters();
        for (int letter = 0; letter < LETTERS; letter++) {
            survey.findChord(letter);
            h = 31 * h + survey.chordNight;
            h = 31 * h + survey.chordNumber;
        }
        h = 31 * h + survey.silentNights();
        h = 31 * h + plans.bestSale();
        h = 31 * h + clues.neverTurnings();
        chances.findSummer(7, 20);
        h = 31 * h + chances.nightsTogether;
        return 31 * h + chances.wheelsEaten;
    }

    private static boolean isText(int text) {
        return text == 0 || text == 1;
    }

    private static boolean isNight(int night) {
        return night >= 0 && night < NIGHTS;
    }

    private static boolean isForm(int form) {
        return form >= 0 && form < FORMS;
    }

    private boolean isSheet(int s) {
        return s >= 0 && s < sheets.length;
    }

    private static int addMark(Marks marks, int night, int wheel, int letter) {
        if (!isNight(night) || wheel < 0 || wheel >= MOST_WHEELS) {
            return BAD;
        }
        if (marks.isFull()) {
            return FULL;
        }
        marks.append(night, wheel, letter);
        return marks.number;
    }

    private int found(int finding) {
        latestFinding = finding;
        return -10 - finding;
    }

    private static int findingAt(Sheet sheet, int form, int i) {
        if (sheet.lost) {
            return NULL;
        }
        if (sheet.form != form) {
            return CAST;
        }
        return i < 0 || i >= sheet.size ? INDEX : 0;
    }

    /** The item of a row, or another number where the row has no such item. */
    private static int itemOr(int[] row, int i, int other) {
        return i >= 0 && i < row.length ? row[i] : other;
    }

    private static boolean isOn(int bits, int place) {
        return place >= 0 && place < 31 && (bits >> place & 1) != 0;
    }

    private static final class Text {
        final int[] bytes;
        int length;

        Text(int most) {
            bytes = new int[Math.max(most, 0)];
        }

        boolean isFull() {
            return length >= bytes.length;
        }

        void append(int b) {
            if (length >= 0 && length < bytes.length) {
                bytes[length] = b;
                length++;
            }
        }

        int byteAt(int place) {
            return itemOr(bytes, place, NONE);
        }
    }

    /** The wheels as their text tells them. */
    private static final class Wheels {
        // from AT_LETTERS on the stage also counts the letters that there are
        private static final int AT_SORT = 0, AT_TENS = 1, AT_LETTERS = 3;

        final int[] sorts = new int[MOST_WHEELS];
        final int[] nights = new int[MOST_WHEELS];
        final int[] sizes = new int[MOST_WHEELS];
        final int[] letters = new int[MOST_WHEELS * MOST_SOUNDS];
        int number;
        int firstFault = NONE;
        private int stage;

        void readFrom(Text text) {
            number = 0;
            stage = AT_SORT;
            firstFault = NONE;
            for (int place = 0; place < text.length && firstFault == NONE; place++) {
                if (!takes(text.byteAt(place))) {
                    firstFault = place;
                }
            }
            if (firstFault == NONE && text.length > 0 && !mayEnd()) {
                firstFault = text.length;
            }
            if (firstFault != NONE) {
                number = 0;
            }
        }

        private boolean takes(int b) {
            if (stage == AT_SORT) {
                return takesSort(b == 'h' ? HARD : b == 's' ? SOFT : b == 'b' ? BLUE : NONE);
            }
            if (stage < AT_LETTERS) {
                return takesFigure(number - 1, b - '0');
            }
            return b == ';' ? takesNext() : takesLetter(number - 1, b - 'a');
        }

        private boolean takesSort(int sort) {
            if (sort == NONE || number < 0 || number >= MOST_WHEELS) {
                return false;
            }
            sorts[number] = sort;
            nights[number] = 0;
            sizes[number] = 0;
            number++;
            stage = AT_TENS;
            return true;
        }

        private boolean takesFigure(int w, int figure) {
            if (figure < 0 || figure > (stage == AT_TENS ? 1 : 9) || w < 0 || w >= nights.length) {
                return false;
            }
            nights[w] = 10 * nights[w] + figure;
            stage++;
            return true;
        }

        private boolean takesLetter(int w, int letter) {
            int sound = stage - AT_LETTERS;
            int place = w * MOST_SOUNDS + sound;
            if (letter < 0 || letter >= LETTERS || sound < 0 || sound >= MOST_SOUNDS) {
                return false;
            }
            if (w < 0 || w >= sizes.length || place >= letters.length) {
                return false;
            }
            letters[place] = letter;
            sizes[w] = sound + 1;
            stage++;
            return true;
        }

        private boolean takesNext() {
            boolean ended = mayEnd();
            if (ended) {
                stage = AT_SORT;
            }
            return ended;
        }

        private boolean mayEnd() {
            return stage > AT_LETTERS;
        }

        int sortOf(int w) {
            return itemOr(sorts, w, HARD);
        }

        int nightOf(int w) {
            return itemOr(nights, w, 0);
        }

        int sizeOf(int w) {
            return itemOr(sizes, w, 0);
        }

        int letterOf(int w, int sound) {
            boolean isTold = sound >= 0 && sound < itemOr(sizes, w, 0);
            return isTold ? itemOr(letters, w * MOST_SOUNDS + sound, NONE) : NONE;
        }
    }

    /** The cave as its text tells it. */
    private static final class Cave {
        final int[] warmth = new int[NIGHTS];
        int figures;
        int firstFault = NONE;

        Cave() {
            Arrays.fill(warmth, LATER_WARMTH);
        }

        void readFrom(Text text) {
            firstFault = NONE;
            for (int place = 0; place < text.length && firstFault == NONE; place++) {
                int b = text.byteAt(place);
                if (b < '0' || b > '9') {
                    firstFault = place;
                }
            }
            figures = firstFault == NONE ? text.length : 0;
            for (int night = 0; night < warmth.length; night++) {
                warmth[night] = night < figures ? text.byteAt(night) - '0' : LATER_WARMTH;
            }
        }

        int warmthOn(int night) {
            return itemOr(warmth, night, LATER_WARMTH);
        }
    }

    /** Nights of wheels, in the order in which they were told: turnings, knocks, or what was listened. */
    private static final class Marks {
        final int[] nights;
        final int[] wheels;
        final int[] letters;
        int number;

        Marks(int most) {
            int length = Math.max(most, 0);
            nights = new int[length];
            wheels = new int[length];
            letters = new int[length];
        }

        boolean isFull() {
            return number >= nights.length;
        }

        void append(int night, int wheel, int letter) {
            int i = number;
            if (i >= 0 && i < nights.length && i < wheels.length && i < letters.length) {
                nights[i] = night;
                wheels[i] = wheel;
                letters[i] = letter;
                number++;
            }
        }

        /** The nights of a wheel as bits, as if the mark with the number without had not been. */
        int nightsOf(int wheel, int without) {
            int bits = 0;
            for (int i = 0; i < number; i++) {
                int night = itemOr(nights, i, NONE);
                if (i != without && itemOr(wheels, i, NONE) == wheel && isNight(night)) {
                    bits |= 1 << night;
                }
            }
            return bits;
        }
    }

    /** All that is told, and one trial, which every answer loads with a wheel and may then change. */
    private static final class Cellar {
        final Text wheelText = new Text(71);
        final Text caveText = new Text(NIGHTS);
        final Wheels wheels = new Wheels();
        final Cave cave = new Cave();
        final Marks turnings = new Marks(8);
        final Marks knocks = new Marks(4);
        final Marks listened = new Marks(8);
        final Trial trial = new Trial();
        int time = 8;
        int shrill = 7;

        Text textOf(int text) {
            return text == 0 ? wheelText : caveText;
        }

        void readAnew(int text) {
            if (text == 0) {
                wheels.readFrom(wheelText);
            } else {
                cave.readFrom(caveText);
            }
        }

        boolean has(int wheel) {
            return wheel >= 0 && wheel < wheels.number;
        }

        Trial begin(int wheel) {
            trial.sort = wheels.sortOf(wheel);
            trial.from = wheels.nightOf(wheel);
            trial.size = wheels.sizeOf(wheel);
            for (int sound = 0; sound < MOST_SOUNDS; sound++) {
                int letter = wheels.letterOf(wheel, sound);
                trial.learn(sound, letter, letter >= shrill);
            }
            System.arraycopy(cave.warmth, 0, trial.warmth, 0, NIGHTS);
            trial.turned = turnings.nightsOf(wheel, NONE);
            trial.knocked = knocks.nightsOf(wheel, NONE);
            trial.time = time;
            return trial;
        }
    }

    /** One wheel through all nights. */
    private static final class Trial {
        private final int[] letters = new int[MOST_SOUNDS];
        private final int[] warmth = new int[NIGHTS];
        private final int[] ages = new int[NIGHTS];
        private final int[] moments = new int[NIGHTS];
        private final int[] heard = new int[NIGHTS];
        private final int[] states = new int[NIGHTS];
        int sort;
        int from;
        int size;
        int turned;
        int knocked;
        int time;
        int screaming;
        int heardNights;
        boolean eaten;

        void learn(int sound, int letter, boolean screams) {
            if (sound >= 0 && sound < letters.length) {
                letters[sound] = letter;
                screaming = screams ? screaming | 1 << sound : screaming & ~(1 << sound);
            }
        }

        void warmTo(int night, int v) {
            if (night >= 0 && night < warmth.length) {
                warmth[night] = v;
            }
        }

        int warmthOn(int night) {
            return itemOr(warmth, night, LATER_WARMTH);
        }

        int ageOn(int night) {
            return itemOr(ages, night, 0);
        }

        int momentOn(int night) {
            return itemOr(moments, night, NONE);
        }

        int heardOn(int night) {
            return itemOr(heard, night, NONE);
        }

        int stateOn(int night) {
            return itemOr(states, night, AWAY);
        }

        /** How much the age becomes more on a night that is so warm. */
        int growth(int night, int warm) {
            int knock = isOn(knocked, night) ? 2 : 0;
            if (sort == BLUE) {
                return warm + 1 + knock;
            }
            if (sort == SOFT) {
                return (isOn(turned, night) ? 0 : warm + warm / 2) + knock;
            }
            boolean isWhole = isOn(turned, night) || isOn(turned, night - 1);
            return (isWhole ? warm : warm / 2) + knock;
        }

        /** The moment at an age, NONE where the wheel is over. */
        int momentAt(int age) {
            int moment = time < 1 || age < 0 ? size : age / time;
            return moment < size ? moment : NONE;
        }

        boolean isEatenAt(int moment) {
            return sort != BLUE && isOn(screaming, moment);
        }

        void run() {
            int age = 0;
            heardNights = 0;
            eaten = false;
            for (int night = 0; night < NIGHTS; night++) {
                if (night < from || eaten) {
                    note(night, age, NONE, eaten ? GONE : AWAY);
                } else {
                    age += growth(night, warmthOn(night));
                    int moment = momentAt(age);
                    eaten = isEatenAt(moment);
                    note(night, age, moment, moment == NONE ? OVER : eaten ? EATEN : HEARD);
                }
            }
        }

        private void note(int night, int age, int moment, int state) {
            if (night >= 0 && night < NIGHTS) {
                ages[night] = age;
                moments[night] = moment;
                heard[night] = itemOr(letters, moment, NONE);
                states[night] = state;
                heardNights |= moment == NONE ? 0 : 1 << night;
            }
        }

        // Searches need no whole run; and an age never becomes less, so what is over stays over.

        /** The moment that is heard on one night, NONE if nothing is. */
        int soleMoment(int night) {
            int age = 0;
            for (int n = from; n < night; n++) {
                age += growth(n, warmthOn(n));
                int moment = momentAt(age);
                if (moment == NONE || isEatenAt(moment)) {
                    return NONE;
                }
            }
            return night < from ? NONE : momentAt(age + growth(night, warmthOn(night)));
        }

        /** On how many nights it is heard. */
        int heardLong() {
            int age = 0;
            int many = 0;
            for (int n = from; n < NIGHTS; n++) {
                age += growth(n, warmthOn(n));
                int moment = momentAt(age);
                if (moment == NONE) {
                    return many;
                }
                many++;
                if (isEatenAt(moment)) {
                    return many;
                }
            }
            return many;
        }

        /** The first night on which a sound that screams is heard, NONE if there is none; after run(). */
        int firstScream() {
            for (int night = 0; night < NIGHTS; night++) {
                if (isOn(screaming, momentOn(night))) {
                    return night;
                }
            }
            return NONE;
        }
    }

    /** What is heard of all wheels. */
    private static final class Survey {
        private final Cellar cellar;
        private final int[] hearers = new int[LETTERS * NIGHTS];
        int screamNight;
        int screamWheel;
        int chordNight;
        int chordNumber;

        Survey(Cellar cellar) {
            this.cellar = cellar;
        }

        void findScream() {
            screamNight = NONE;
            screamWheel = NONE;
            for (int w = 0; w < cellar.wheels.number; w++) {
                Trial trial = cellar.begin(w);
                trial.run();
                int night = trial.firstScream();
                if (night != NONE && (screamNight == NONE || night < screamNight)) {
                    screamNight = night;
                    screamWheel = w;
                }
            }
        }

        /** On how many wheels each letter is heard, night by night. */
        void tallyLetters() {
            Arrays.fill(hearers, 0);
            for (int w = 0; w < cellar.wheels.number; w++) {
                Trial trial = cellar.begin(w);
                trial.run();
                for (int night = 0; night < NIGHTS; night++) {
                    int letter = trial.heardOn(night);
                    int i = letter * NIGHTS + night;
                    if (letter >= 0 && i < hearers.length) {
                        hearers[i]++;
                    }
                }
            }
        }

        /** The chord of a letter, by what is tallied. */
        void findChord(int letter) {
            chordNight = NONE;
            chordNumber = NONE;
            for (int night = 0; night < NIGHTS; night++) {
                int many = itemOr(hearers, letter * NIGHTS + night, 0);
                if (many > Math.max(chordNumber, 0)) {
                    chordNight = night;
                    chordNumber = many;
                }
            }
        }

        int silentNights() {
            int heard = 0;
            for (int w = 0; w < cellar.wheels.number; w++) {
                Trial trial = cellar.begin(w);
                trial.run();
                heard |= trial.heardNights;
            }
            return ALL_NIGHTS & ~heard;
        }

        int eatenWheels() {
            int eaten = 0;
            for (int w = 0; w < cellar.wheels.number; w++) {
                Trial trial = cellar.begin(w);
                trial.run();
                eaten += trial.eaten ? 1 : 0;
            }
            return eaten;
        }
    }

    /** What had better be done. */
    private static final class Plans {
        private final Cellar cellar;
        private final int[] prices = new int[MOST_WHEELS * NIGHTS];
        private final int[] takings = new int[1 << MOST_WHEELS];
        private final int[] takingsBefore = new int[1 << MOST_WHEELS];
        int ripeNumber;
        int ripeFirst;
        int ripeSecond;
        int coldNight;
        int coldNumber;
        int comeNight;
        int comeMoment;

        Plans(Cellar cellar) {
            this.cellar = cellar;
        }

        void findRipe(int wheel, int night) {
            Trial trial = cellar.begin(wheel);
            ripeNumber = NONE;
            ripeFirst = NONE;
            ripeSecond = NONE;
            if (trial.soleMoment(night) == trial.size - 1) {
                ripeNumber = 0;
            } else if (trial.sort != BLUE && !findRipeByOne(trial, night)) {
                // a blue wheel heeds no turning
                findRipeByTwo(trial, night);
            }
        }

        /** A turning ahead of this night changes nothing: a hard wheel heeds the night ahead of its own. */
        private static int firstOfUse(Trial trial) {
            return Math.max(trial.from - 1, 0);
        }

        private boolean findRipeByOne(Trial trial, int night) {
            int told = trial.turned;
            for (int a = firstOfUse(trial); a <= night; a++) {
                trial.turned = told | 1 << a;
                if (trial.soleMoment(night) == trial.size - 1) {
                    ripeNumber = 1;
                    ripeFirst = a;
                    return true;
                }
            }
            trial.turned = told;
            return false;
        }

        private void findRipeByTwo(Trial trial, int night) {
            int told = trial.turned;
            for (int a = firstOfUse(trial); a <= night; a++) {
                for (int b = a + 1; b <= night; b++) {
                    trial.turned = told | 1 << a | 1 << b;
                    if (trial.soleMoment(night) == trial.size - 1) {
                        ripeNumber = 2;
                        ripeFirst = a;
                        ripeSecond = b;
                        return;
                    }
                }
            }
        }

        void findCold(int wheel) {
            Trial trial = cellar.begin(wheel);
            coldNight = NONE;
            coldNumber = NONE;
            for (int night = 0; night < NIGHTS; night++) {
                int told = trial.warmthOn(night);
                trial.warmTo(night, 0);
                int many = trial.heardLong();
                trial.warmTo(night, told);
                if (many > coldNumber) {
                    coldNight = night;
                    coldNumber = many;
                }
            }
        }

        void findCome(int wheel) {
            Trial trial = cellar.begin(wheel);
            comeNight = NONE;
            comeMoment = NONE;
            for (int night = 0; night < COMINGS; night++) {
                trial.from = night;
                int moment = trial.soleMoment(NIGHTS - 1);
                if (moment > comeMoment) {
                    comeNight = night;
                    comeMoment = moment;
                }
            }
        }

        int bestSale() {
            int wheels = Math.min(cellar.wheels.number, MOST_WHEELS);
            Arrays.fill(prices, 0);
            for (int w = 0; w < wheels; w++) {
                priceLast(w);
            }
            Arrays.fill(takings, 0);
            for (int night = 0; night < NIGHTS; night++) {
                System.arraycopy(takings, 0, takingsBefore, 0, 1 << MOST_WHEELS);
                for (int w = 0; w < wheels; w++) {
                    sell(w, itemOr(prices, w * NIGHTS + night, 0), 1 << wheels);
                }
            }
            return itemOr(takings, (1 << wheels) - 1, 0);
        }

        /** The last eight nights are the dearest, as moments never become less, and seven other wheels leave one of them free. */
        private void priceLast(int w) {
            Trial trial = cellar.begin(w);
            trial.run();
            int left = MOST_WHEELS;
            for (int night = NIGHTS - 1; night >= 0 && left > 0; night--) {
                int i = w * NIGHTS + night;
                if (trial.momentOn(night) != NONE && i >= 0 && i < prices.length) {
                    prices[i] = trial.momentOn(night) + 1;
                    left--;
                }
            }
        }

        /** takings: the most that each set of wheels has brought; takingsBefore: up to the night ahead. */
        private void sell(int w, int paid, int sets) {
            if (paid <= 0) {
                return;
            }
            int bit = 1 << w;
            for (int set = bit; set < sets && set < takings.length; set++) {
                if ((set & bit) != 0) {
                    takings[set] = Math.max(takings[set], takingsBefore[set ^ bit] + paid);
                }
            }
        }
    }

    /** What may have been, by what was listened. */
    private static final class Clues {
        private static final int KINDS = LETTERS + 1;

        private final Cellar cellar;
        private final int[] alike = new int[NIGHTS * KINDS];

        Clues(Cellar cellar) {
            this.cellar = cellar;
        }

        int neverTurnings() {
            int bits = 0;
            for (int turning = 0; turning < cellar.turnings.number; turning++) {
                if (othersFit(NONE, turning)) {
                    bits |= 1 << turning;
                }
            }
            return bits;
        }

        int fromNights(int wheel) {
            if (!othersFit(wheel, NONE)) {
                return 0;
            }
            Trial trial = cellar.begin(wheel);
            int bits = 0;
            for (int night = 0; night < COMINGS; night++) {
                trial.from = night;
                trial.run();
                if (fits(trial, wheel)) {
                    bits |= 1 << night;
                }
            }
            return bits;
        }

        int fittingSorts(int wheel) {
            if (!othersFit(wheel, NONE)) {
                return 0;
            }
            Trial trial = cellar.begin(wheel);
            int bits = 0;
            for (int sort = HARD; sort <= BLUE; sort++) {
                trial.sort = sort;
                trial.run();
                if (fits(trial, wheel)) {
                    bits |= 1 << sort;
                }
            }
            return bits;
        }

        /** The night to listen next, by the nights on which the wheel may have come. */
        int nextNight(int wheel, int comings) {
            tallyAlike(wheel, comings);
            int best = 0;
            int least = mostAlike(0);
            for (int night = 1; night < NIGHTS; night++) {
                int most = mostAlike(night);
                if (most < least) {
                    best = night;
                    least = most;
                }
            }
            return best;
        }

        private void tallyAlike(int wheel, int comings) {
            Arrays.fill(alike, 0);
            Trial trial = cellar.begin(wheel);
            for (int coming = 0; coming < COMINGS; coming++) {
                if (isOn(comings, coming)) {
                    trial.from = coming;
                    trial.run();
                    for (int night = 0; night < NIGHTS; night++) {
                        tallyOne(night * KINDS + trial.heardOn(night) + 1);
                    }
                }
            }
        }

        private void tallyOne(int i) {
            if (i >= 0 && i < alike.length) {
                alike[i]++;
            }
        }

        private int mostAlike(int night) {
            int most = 0;
            for (int kind = 0; kind < KINDS; kind++) {
                most = Math.max(most, itemOr(alike, night * KINDS + kind, 0));
            }
            return most;
        }

        /** Whether all that was listened of wheels but one comes out so, as if one turning had not been. */
        private boolean othersFit(int but, int without) {
            for (int w = 0; w < MOST_WHEELS; w++) {
                if (w != but && cellar.listened.nightsOf(w, NONE) != 0) {
                    if (!cellar.has(w)) {
                        return false;
                    }
                    Trial trial = cellar.begin(w);
                    trial.turned = cellar.turnings.nightsOf(w, without);
                    trial.run();
                    if (!fits(trial, w)) {
                        return false;
                    }
                }
            }
            return true;
        }

        private boolean fits(Trial trial, int wheel) {
            Marks listened = cellar.listened;
            for (int i = 0; i < listened.number; i++) {
                if (itemOr(listened.wheels, i, NONE) == wheel) {
                    int heard = trial.heardOn(itemOr(listened.nights, i, NONE));
                    if (itemOr(listened.letters, i, NOTHING) != (heard == NONE ? NOTHING : heard)) {
                        return false;
                    }
                }
            }
            return true;
        }
    }

    /** Cold by chance, and other summers. */
    private static final class Chances {
        private final Cellar cellar;
        // by age: one at which a wheel is not over is less than this; all weights together are 16 to the 10th at most
        private final long[] weights = new long[MOST_TIME * MOST_SOUNDS];
        private final long[] nextWeights = new long[MOST_TIME * MOST_SOUNDS];
        long above;
        long below;
        int nightsTogether;
        int wheelsEaten;

        Chances(Cellar cellar) {
            this.cellar = cellar;
        }

        void findFrost(int c, int last, int wheel, int night) {
            Trial trial = cellar.begin(wheel);
            above = 0;
            below = 1;
            if (night < trial.from) {
                return;
            }
            Arrays.fill(weights, 0);
            weights[0] = 1;
            for (int n = trial.from; n <= night; n++) {
                boolean byChance = n <= last;
                weighNight(trial, n, byChance ? c : 0, byChance ? SIXTEENTHS : 1);
                below *= byChance ? SIXTEENTHS : 1;
                if (n < night) {
                    dropEaten(trial);
                }
            }
            for (int age = 0; age < weights.length; age++) {
                above += weights[age];
            }
            reduce();
        }

        /** Every weight goes to the age by frost with c shares and to the age as told with the others. */
        private void weighNight(Trial trial, int night, int c, int shares) {
            Arrays.fill(nextWeights, 0);
            int byFrost = trial.growth(night, 0);
            int asTold = trial.growth(night, trial.warmthOn(night));
            for (int age = 0; age < weights.length; age++) {
                if (weights[age] != 0) {
                    weigh(trial, age + byFrost, weights[age] * c);
                    weigh(trial, age + asTold, weights[age] * (shares - c));
                }
            }
            System.arraycopy(nextWeights, 0, weights, 0, Math.min(nextWeights.length, weights.length));
        }

        /** What is over is never heard again, and so is weighed no more. */
        private void weigh(Trial trial, int age, long weight) {
            if (trial.momentAt(age) != NONE && age >= 0 && age < nextWeights.length) {
                nextWeights[age] += weight;
            }
        }

        private void dropEaten(Trial trial) {
            for (int age = 0; age < weights.length; age++) {
                if (trial.isEatenAt(trial.momentAt(age))) {
                    weights[age] = 0;
                }
            }
        }

        /** below is a power of two, so halving both is enough for lowest terms. */
        private void reduce() {
            if (above == 0) {
                below = 1;
            }
            for (int i = 0; i < 63 && (above & 1) == 0 && (below & 1) == 0; i++) {
                above >>= 1;
                below >>= 1;
            }
        }

        void findSummer(int seed, int n) {
            nightsTogether = 0;
            wheelsEaten = 0;
            int together = ALL_NIGHTS;
            for (int w = 0; w < cellar.wheels.number; w++) {
                Trial trial = cellar.begin(w);
                warmByLots(trial, seed, n);
                trial.run();
                together &= trial.heardNights;
                wheelsEaten += trial.eaten ? 1 : 0;
            }
            if (cellar.wheels.number > 0) {
                nightsTogether = Integer.bitCount(together);
            }
        }

        private static void warmByLots(Trial trial, int first, int n) {
            int seed = first;
            for (int night = 0; night < NIGHTS; night++) {
                if (night < n) {
                    seed = 1103515245 * seed + 12345;
                    trial.warmTo(night, (seed >>> 16) % 10);
                } else {
                    trial.warmTo(night, LATER_WARMTH);
                }
            }
        }
    }

    /** A row of a form; its items are made ahead, so that a new row makes no new objects. */
    private static final class Sheet {
        final int[] items = new int[MOST_ITEMS];
        boolean lost = true;
        int form;
        int size;

        void renew(int newForm, int newSize) {
            Arrays.fill(items, 0);
            lost = false;
            form = newForm;
            size = newSize;
        }

        boolean holds(int i, int n) {
            return i >= 0 && n >= 0 && i <= size && n <= size - i && size <= items.length;
        }

        int itemAt(int i) {
            return itemOr(items, i, 0);
        }

        void place(int i, int v) {
            if (i >= 0 && i < items.length) {
                items[i] = form == 0 ? (byte) v : form == 1 ? (short) v : v;
            }
        }
    }
}
