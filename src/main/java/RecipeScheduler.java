import java.util.Arrays;
import java.util.NoSuchElementException;

/**
 * A scheduler and simulator for a recipe.
 *
 * <p>A set of steps is an int throughout: bit n stands for step n. Every array is made in a
 * constructor and used again, so that no call but a throwing one makes an object.
 */
public final class RecipeScheduler {
    public static final int NONE = -1;
    public static final int WAITING = 0;
    public static final int RUNNING = 1;
    public static final int DONE = 2;
    public static final int BURNT = 3;

    private static final int MAX_STEPS = 14;
    private static final int MAX_PANS = 4;
    private static final int MAX_CAPACITY = 5;
    private static final int MAX_PREDECESSORS = 4;
    private static final int MAX_COMMANDS = 30;
    private static final int MAX_COOKS = 4;
    private static final int MAX_HOLD = 30;
    private static final int MAX_DURATION = 60;
    private static final int MAX_STEP_TASTE = 9;
    private static final int MAX_DISH_TASTE = 99;
    private static final int MAX_SALT = 9;
    private static final int MAX_PASS = 200;
    private static final int MAX_FORECAST = 500;
    private static final int MAX_MINUTE = 9999;
    private static final int MAX_UNDO = 6;
    private static final int SLOTS = 2;

    private static final int MAX_TEXT = 700;
    private static final int APPENDED = 20;
    private static final int MAX_NAME = 6;
    private static final int MAX_WORD = 8;
    private static final int MAX_DIGITS = 3;
    private static final int MAX_NUMBER = 999;
    /** A step contributes its name, at most two digits and the space ahead of the next step. */
    private static final int MAX_SUMMARY = MAX_STEPS * (MAX_NAME + 3) - 1;

    private static final int SYNTAX_ERROR = 1;
    private static final int RANGE_ERROR = 2;
    private static final int NAME_ERROR = 3;
    private static final int REPEATED_ERROR = 4;
    private static final int COUNT_ERROR = 5;

    private static final int IS_RUNNING = 0;
    private static final int IS_DONE = 1;
    private static final int LACKS_PREDECESSOR = 2;
    private static final int LACKS_PAN = 3;
    private static final int LACKS_COOK = 4;
    private static final int LACKS_NOTHING = 5;

    private static final Command[] COMMANDS = Command.values();

    private static final String FIRST_SETUP =
        "recipe 1 2 4 9;pan pot 2;pan bowl 2;step cut 3 1 in bowl;step boil 5 2 in pot alone after cut;step fry 2 3 in pot hot;step mix 2 1 in bowl after boil fry;step rest 4 0 alone after mix;";

    private final Text input;
    private final Text output;
    private final Tokens tokens;
    private final SetupReader setupReader;
    private final ScriptReader scriptReader;
    private final Kitchen now;
    private final Kitchen forecast;
    private final History history;
    private final State[] saved;
    private final boolean[] isSaved;
    private Recipe spare;

    public RecipeScheduler() {
        Text text = new Text(MAX_TEXT);
        Tokens reading = new Tokens(text);
        SetupReader setup = new SetupReader(reading);
        Recipe first = new Recipe();
        text.addString(FIRST_SETUP);
        setup.readInto(first);
        text.length = 0;
        input = text;
        output = new Text(MAX_SUMMARY);
        tokens = reading;
        setupReader = setup;
        scriptReader = new ScriptReader(reading);
        now = new Kitchen(first);
        forecast = new Kitchen(first);
        history = new History();
        saved = new State[SLOTS];
        for (int i = 0; i < SLOTS; i++) {
            saved[i] = new State();
        }
        isSaved = new boolean[SLOTS];
        spare = new Recipe();
    }

    // ---- input

    public int append(int a, int b, int c, int d, int e) throws IllegalStateException {
        if (input.length > MAX_TEXT - APPENDED) {
            throw new IllegalStateException("the input buffer would be too long");
        }
        input.addFourBytes(a);
        input.addFourBytes(b);
        input.addFourBytes(c);
        input.addFourBytes(d);
        input.addFourBytes(e);
        return input.length;
    }

    public int truncate(int length) throws IllegalArgumentException {
        if (!isWithin(length, 0, input.length)) {
            throw new IllegalArgumentException("no such length");
        }
        input.length = length;
        return length;
    }

    public int load() throws IllegalArgumentException {
        setupReader.readInto(spare);
        input.length = 0;
        requireNoError();
        // The reader fills the spare recipe, so that a faulty text leaves the present one alone.
        Recipe old = now.recipe;
        now.open(spare);
        spare = old;
        for (int i = 0; i < SLOTS; i++) {
            isSaved[i] = false;
        }
        history.count = 0;
        return now.recipe.steps.count;
    }

    public int errorCode() {
        return tokens.errorCode;
    }

    public int errorPosition() {
        return tokens.errorPosition;
    }

    // ---- recipe

    public int stepCount() {
        return now.recipe.steps.count;
    }

    public int cooks() {
        return now.state.cooks;
    }

    public int minute() {
        return now.state.minute;
    }

    public int salt() {
        return now.state.salt;
    }

    public int taste() {
        return now.dishTaste();
    }

    public int countWithStatus(int status) throws IllegalArgumentException {
        if (!isWithin(status, WAITING, BURNT)) {
            throw new IllegalArgumentException("no such status");
        }
        int found = 0;
        for (int step = 0; step < now.recipe.steps.count; step++) {
            if (now.state.statusOf(step) == status) {
                found++;
            }
        }
        return found;
    }

    public int starts() {
        return sum(now.state.starts, now.recipe.steps.count);
    }

    public int completions() {
        return sum(now.state.completions, now.recipe.steps.count);
    }

    public int burns() {
        return sum(now.state.burns, now.recipe.steps.count);
    }

    public int cookMinutes() {
        return now.state.cookMinutes;
    }

    public int panCapacity(int pan) throws IndexOutOfBoundsException {
        requirePan(pan);
        return now.recipe.capacity[pan];
    }

    public int pansInUse(int pan) throws IndexOutOfBoundsException {
        requirePan(pan);
        return Integer.bitCount(now.occupants(pan));
    }

    public int duration(int step) throws IndexOutOfBoundsException {
        requireStep(step);
        return now.state.duration[step];
    }

    public int stepTaste(int step) throws IndexOutOfBoundsException {
        requireStep(step);
        return now.recipe.taste[step];
    }

    public int panType(int step) throws IndexOutOfBoundsException {
        requireStep(step);
        return now.recipe.pan[step];
    }

    public boolean isHot(int step) throws IndexOutOfBoundsException {
        requireStep(step);
        return contains(now.recipe.hot, step);
    }

    public boolean isUnattended(int step) throws IndexOutOfBoundsException {
        requireStep(step);
        return contains(now.recipe.alone, step);
    }

    public int predecessor(int step, int index) throws IndexOutOfBoundsException {
        requireStep(step);
        if (!isWithin(index, 0, now.recipe.predecessorCount[step] - 1)) {
            return NONE;
        }
        return now.recipe.predecessors[step][index];
    }

    public int successorCount(int step) throws IndexOutOfBoundsException {
        requireStep(step);
        return Integer.bitCount(now.recipe.successorSet[step]);
    }

    public boolean dependsOn(int step, int other) throws IndexOutOfBoundsException {
        requireStep(step);
        requireStep(other);
        return contains(now.recipe.allBefore(step), other);
    }

    public int pathLength(int step) throws IndexOutOfBoundsException {
        requireStep(step);
        now.rank();
        return now.path[step];
    }

    public int nameLetter(int step, int index) throws IndexOutOfBoundsException {
        requireStep(step);
        if (!isWithin(index, 0, now.recipe.steps.lengths[step] - 1)) {
            throw new IndexOutOfBoundsException("no such letter");
        }
        return now.recipe.steps.letters[step][index];
    }

    public int findStep() throws NoSuchElementException {
        int step = now.recipe.steps.indexOf(input, 0, input.length);
        if (step == NONE) {
            throw new NoSuchElementException("no step has this name");
        }
        return step;
    }

    // ---- progress

    public int status(int step) throws IndexOutOfBoundsException {
        requireStep(step);
        return now.state.statusOf(step);
    }

    public int remaining(int step) throws IndexOutOfBoundsException {
        requireStep(step);
        return now.state.remaining[step];
    }

    public int age(int step) throws IndexOutOfBoundsException {
        requireStep(step);
        return now.state.age[step];
    }

    public int startsOf(int step) throws IndexOutOfBoundsException {
        requireStep(step);
        return now.state.starts[step];
    }

    public boolean isTakenUp(int step) throws IndexOutOfBoundsException {
        requireStep(step);
        return contains(now.state.done, step) && now.isContinued(step);
    }

    public int readyStep(int index) {
        return now.readyAt(index);
    }

    public int whyNotRunning(int step) throws IndexOutOfBoundsException {
        requireStep(step);
        return now.obstacle(step);
    }

    public int blockingStep(int step) throws IndexOutOfBoundsException {
        requireStep(step);
        return now.blocker(step);
    }

    public int rootBlocker(int step) throws IndexOutOfBoundsException {
        requireStep(step);
        return now.deepestMissing(step);
    }

    public int whyNotServed() {
        return now.servingObstacle();
    }

    public int criticalStep(int index) {
        return now.criticalAt(index);
    }

    public int slack(int step) throws IndexOutOfBoundsException {
        requireStep(step);
        return now.spareMinutes(step);
    }

    // ---- forecasts

    public int minutesToFinish() {
        forecast.copyFrom(now);
        return forecast.runToFinish();
    }

    public int statusAfter(int step, int minutes)
            throws IndexOutOfBoundsException, IllegalArgumentException {
        requireStep(step);
        if (!isWithin(minutes, 0, MAX_FORECAST)) {
            throw new IllegalArgumentException("no such number of minutes");
        }
        forecast.copyFrom(now);
        forecast.runMinutes(minutes);
        return forecast.state.statusOf(step);
    }

    public int minutesToBurn(int step) throws IndexOutOfBoundsException {
        requireStep(step);
        forecast.copyFrom(now);
        return forecast.runToBurn(step);
    }

    public int minutesWithCooks(int cooks) throws IllegalArgumentException {
        requireCooks(cooks);
        return finishWithCooks(cooks);
    }

    public int fewestCooks() {
        int best = finishWithCooks(MAX_COOKS);
        for (int cooks = 1; cooks < MAX_COOKS; cooks++) {
            if (finishWithCooks(cooks) == best) {
                return cooks;
            }
        }
        return MAX_COOKS;
    }

    public int bottleneck() throws NoSuchElementException {
        int found = NONE;
        int least = 0;
        for (int step = 0; step < now.recipe.steps.count; step++) {
            if (!contains(now.state.done, step)) {
                int minutes = finishWithShorter(step);
                if (found == NONE || minutes < least) {
                    found = step;
                    least = minutes;
                }
            }
        }
        if (found == NONE) {
            throw new NoSuchElementException("all steps are done");
        }
        return found;
    }

    public int saltNeeded() {
        int all = sum(now.recipe.taste, now.recipe.steps.count) + now.state.salt;
        if (all < now.recipe.lowest) {
            return now.recipe.lowest - all;
        }
        return all > now.recipe.highest ? now.recipe.highest - all : 0;
    }

    public float doneShare() {
        return (float) Integer.bitCount(now.state.done) / (float) stepsToShareBy();
    }

    public double meanDuration() {
        int all = sum(now.state.duration, now.recipe.steps.count);
        return (double) all / (double) stepsToShareBy();
    }

    public int inconsistencies() {
        State state = now.state;
        int count = now.recipe.steps.count;
        return sum(state.starts, count) - sum(state.completions, count)
            - Integer.bitCount(state.running) - state.stops + now.prematureSteps();
    }

    // ---- changes

    public int pass(int minutes) throws IllegalArgumentException, IllegalStateException {
        if (!isPassLength(minutes)) {
            throw new IllegalArgumentException("no such number of minutes");
        }
        if (!fitsClock(minutes)) {
            throw new IllegalStateException("the current minute would be too late");
        }
        history.push(now.state);
        return now.runMinutes(minutes);
    }

    public int addSalt(int amount) throws IllegalArgumentException, IllegalStateException {
        if (!isSaltAmount(amount)) {
            throw new IllegalArgumentException("no such amount");
        }
        if (now.state.served) {
            throw new IllegalStateException("the dish was served");
        }
        history.push(now.state);
        now.state.salt += amount;
        return now.dishTaste();
    }

    public int stop(int step) throws IndexOutOfBoundsException, IllegalStateException {
        requireStep(step);
        if (!contains(now.state.running, step)) {
            throw new IllegalStateException("the step is not running");
        }
        history.push(now.state);
        return now.state.halt(step);
    }

    public int redo(int step) throws IndexOutOfBoundsException, IllegalStateException {
        requireStep(step);
        if (!now.isRedoable(step)) {
            throw new IllegalStateException("the step cannot be discarded");
        }
        history.push(now.state);
        return now.state.discard(step);
    }

    public int setCooks(int cooks) throws IllegalArgumentException {
        requireCooks(cooks);
        history.push(now.state);
        int previous = now.state.cooks;
        now.state.cooks = cooks;
        return previous;
    }

    public int setDuration(int step, int duration)
            throws IndexOutOfBoundsException, IllegalArgumentException {
        requireStep(step);
        if (!isDuration(duration)) {
            throw new IllegalArgumentException("no such duration");
        }
        history.push(now.state);
        int previous = now.state.duration[step];
        now.state.duration[step] = duration;
        return previous;
    }

    public int serve() throws IllegalStateException {
        if (now.servingObstacle() != 0) {
            throw new IllegalStateException("the dish cannot be served");
        }
        history.push(now.state);
        now.state.served = true;
        return now.dishTaste();
    }

    public int runScript() throws IllegalArgumentException {
        scriptReader.read(now.recipe.steps);
        input.length = 0;
        requireNoError();
        history.push(now.state);
        for (int i = 0; i < scriptReader.count; i++) {
            Command command = scriptReader.commands[i];
            int step = scriptReader.steps[i];
            int number = scriptReader.numbers[i];
            if (!isAllowed(command, step, number)) {
                return i;
            }
            carryOut(command, step, number);
        }
        return scriptReader.count;
    }

    // ---- undo, saved states, output

    public int undo() throws IllegalStateException {
        if (history.count == 0) {
            throw new IllegalStateException("nothing to undo");
        }
        history.popInto(now.state);
        return history.count;
    }

    public int save(int slot) throws IndexOutOfBoundsException {
        requireSlot(slot);
        saved[slot].copyFrom(now.state);
        isSaved[slot] = true;
        return now.state.minute;
    }

    public int restore(int slot) throws IndexOutOfBoundsException, IllegalStateException {
        requireSlot(slot);
        if (!isSaved[slot]) {
            throw new IllegalStateException("nothing is saved in the slot");
        }
        now.state.copyFrom(saved[slot]);
        history.count = 0;
        return now.state.minute;
    }

    public int writeSummary() {
        output.length = 0;
        for (int step = 0; step < now.recipe.steps.count; step++) {
            if (step > 0) {
                output.addByte(' ');
            }
            now.recipe.steps.copyTo(output, step);
            writeProgress(step);
        }
        return output.length;
    }

    public int outputByte(int index) throws IndexOutOfBoundsException {
        if (!isWithin(index, 0, output.length - 1)) {
            throw new IndexOutOfBoundsException("no such byte");
        }
        return output.bytes[index];
    }

    // ---- what several calls need

    private void requireStep(int step) {
        if (!isWithin(step, 0, now.recipe.steps.count - 1)) {
            throw new IndexOutOfBoundsException("no such step");
        }
    }

    private void requirePan(int pan) {
        if (!isWithin(pan, 0, now.recipe.pans.count - 1)) {
            throw new IndexOutOfBoundsException("no such pan type");
        }
    }

    private void requireSlot(int slot) {
        if (!isWithin(slot, 0, SLOTS - 1)) {
            throw new IndexOutOfBoundsException("no such slot");
        }
    }

    private void requireCooks(int cooks) {
        if (!isCookCount(cooks)) {
            throw new IllegalArgumentException("no such number of cooks");
        }
    }

    private void requireNoError() {
        if (tokens.errorCode != 0) {
            throw new IllegalArgumentException("the text has an error");
        }
    }

    private boolean isPassLength(int minutes) {
        return isWithin(minutes, 1, MAX_PASS);
    }

    private boolean fitsClock(int minutes) {
        return now.state.minute + minutes <= MAX_MINUTE;
    }

    private boolean isSaltAmount(int amount) {
        return amount != 0 && isWithin(amount, -MAX_SALT, MAX_SALT);
    }

    private boolean isCookCount(int cooks) {
        return isWithin(cooks, 1, MAX_COOKS);
    }

    private boolean isDuration(int duration) {
        return isWithin(duration, 1, MAX_DURATION);
    }

    /** Tells whether the method that the command calls would not throw an exception. */
    private boolean isAllowed(Command command, int step, int number) {
        switch (command) {
            case PASS:
                return isPassLength(number) && fitsClock(number);
            case SALT:
            case WATER:
                return isSaltAmount(number) && !now.state.served;
            case STOP:
                return contains(now.state.running, step);
            case REDO:
                return now.isRedoable(step);
            case COOKS:
                return isCookCount(number);
            case TIME:
                return isDuration(number);
            default:
                return now.servingObstacle() == 0;
        }
    }

    private void carryOut(Command command, int step, int number) {
        switch (command) {
            case PASS:
                now.runMinutes(number);
                break;
            case SALT:
                now.state.salt += number;
                break;
            case WATER:
                now.state.salt -= number;
                break;
            case STOP:
                now.state.halt(step);
                break;
            case REDO:
                now.state.discard(step);
                break;
            case COOKS:
                now.state.cooks = number;
                break;
            case TIME:
                now.state.duration[step] = number;
                break;
            default:
                now.state.served = true;
                break;
        }
    }

    /** Every setup has a step, but a divisor is looked at before it divides. */
    private int stepsToShareBy() {
        return Math.max(1, now.recipe.steps.count);
    }

    private int finishWithCooks(int cooks) {
        forecast.copyFrom(now);
        forecast.state.cooks = cooks;
        return forecast.runToFinish();
    }

    private int finishWithShorter(int step) {
        forecast.copyFrom(now);
        if (forecast.state.duration[step] > 1) {
            forecast.state.duration[step]--;
        }
        int minutes = forecast.runToFinish();
        return minutes == NONE ? MAX_FORECAST + 1 : minutes;
    }

    private void writeProgress(int step) {
        switch (now.state.statusOf(step)) {
            case WAITING:
                output.addByte('.');
                break;
            case RUNNING:
                output.addTwoDigits(now.state.remaining[step]);
                break;
            case DONE:
                output.addByte('=');
                break;
            default:
                output.addByte('*');
                break;
        }
    }

    private static boolean isWithin(int value, int low, int high) {
        return low <= value && value <= high;
    }

    private static boolean contains(int set, int step) {
        return (set >> step & 1) != 0;
    }

    private static int lowestOf(int set) {
        for (int step = 0; step < MAX_STEPS; step++) {
            if (contains(set, step)) {
                return step;
            }
        }
        return NONE;
    }

    private static int sum(int[] values, int count) {
        int sum = 0;
        for (int i = 0; i < count && i < values.length; i++) {
            sum += values[i];
        }
        return sum;
    }

    /** The commands of a script, each with what stands behind its word. */
    private enum Command {
        PASS("pass", false, true),
        SALT("salt", false, true),
        WATER("water", false, true),
        STOP("stop", true, false),
        REDO("redo", true, false),
        COOKS("cooks", false, true),
        TIME("time", true, true),
        SERVE("serve", false, false);

        private final String word;
        private final boolean takesName;
        private final boolean takesNumber;

        Command(String word, boolean takesName, boolean takesNumber) {
            this.word = word;
            this.takesName = takesName;
            this.takesNumber = takesNumber;
        }
    }

    /** Bytes up to a fixed number; a byte beyond it is dropped, so callers test the length first. */
    private static final class Text {
        private final byte[] bytes;
        private int length;

        Text(int capacity) {
            bytes = new byte[capacity];
        }

        void addByte(int value) {
            if (length < bytes.length) {
                bytes[length] = (byte) value;
                length++;
            }
        }

        void addFourBytes(int value) {
            addByte(value >>> 24);
            addByte(value >>> 16);
            addByte(value >>> 8);
            addByte(value);
        }

        void addTwoDigits(int value) {
            if (value >= 10) {
                addByte('0' + value / 10);
            }
            addByte('0' + value % 10);
        }

        void addString(String string) {
            for (int i = 0; i < string.length(); i++) {
                addByte(string.charAt(i));
            }
        }
    }

    /** The names of the pan types or of the steps, by number. */
    private static final class Names {
        private final byte[][] letters;
        private final int[] lengths;
        private int count;

        Names(int capacity) {
            letters = new byte[capacity][MAX_NAME];
            lengths = new int[capacity];
        }

        boolean isFull() {
            return count >= lengths.length;
        }

        int indexOf(Text text, int from, int to) {
            for (int i = 0; i < count; i++) {
                if (lengths[i] == to - from && matches(i, text, from)) {
                    return i;
                }
            }
            return NONE;
        }

        private boolean matches(int index, Text text, int from) {
            for (int i = 0; i < lengths[index]; i++) {
                if (letters[index][i] != text.bytes[from + i]) {
                    return false;
                }
            }
            return true;
        }

        /** Writes the next name but does not count it yet: a step does not exist for itself. */
        void prepare(Text text, int from, int to) {
            if (isFull() || to - from > MAX_NAME) {
                return;
            }
            lengths[count] = to - from;
            for (int i = 0; i < to - from; i++) {
                letters[count][i] = text.bytes[from + i];
            }
        }

        void copyTo(Text text, int index) {
            for (int i = 0; i < lengths[index]; i++) {
                text.addByte(letters[index][i]);
            }
        }
    }

    /**
     * The tokens of a text, one at a time, and the first error. An error takes the place of the
     * present token, so that whatever a reader asks for next is not there and nothing moves on.
     */
    private static final class Tokens {
        private static final int END = 0;
        private static final int WORD = 1;
        private static final int NUMBER = 2;
        private static final int SEMICOLON = 3;
        private static final int INVALID = 4;
        private static final int ERROR = 5;

        private final Text text;
        private int kind;
        private int start;
        private int end;
        private int errorCode;
        private int errorPosition;

        Tokens(Text text) {
            this.text = text;
            errorPosition = NONE;
        }

        void begin() {
            errorCode = 0;
            errorPosition = NONE;
            end = 0;
            advance();
        }

        void advance() {
            start = end;
            while (start < text.length && isGap(text.bytes[start])) {
                start++;
            }
            end = start;
            if (start >= text.length) {
                kind = END;
            } else if (isWithin(text.bytes[start], 'a', 'z')) {
                passRun('a', 'z');
                kind = end - start <= MAX_WORD ? WORD : INVALID;
            } else if (isWithin(text.bytes[start], '0', '9')) {
                passRun('0', '9');
                kind = end - start <= MAX_DIGITS ? NUMBER : INVALID;
            } else {
                kind = text.bytes[start] == ';' ? SEMICOLON : INVALID;
                end = start + 1;
            }
        }

        private void passRun(int low, int high) {
            while (end < text.length && low <= text.bytes[end] && text.bytes[end] <= high) {
                end++;
            }
        }

        void fail(int code) {
            if (kind != ERROR) {
                errorCode = code;
                errorPosition = start;
                kind = ERROR;
            }
        }

        boolean mayGoOn() {
            return kind != END && kind != ERROR;
        }

        boolean isAnyWord() {
            return kind == WORD;
        }

        boolean isWord(String word) {
            if (kind != WORD || end - start != word.length()) {
                return false;
            }
            for (int i = 0; i < word.length(); i++) {
                if (text.bytes[start + i] != word.charAt(i)) {
                    return false;
                }
            }
            return true;
        }

        /** Passes the word if it is there. */
        boolean accept(String word) {
            boolean found = isWord(word);
            if (found) {
                advance();
            }
            return found;
        }

        void expectSemicolon() {
            if (kind != SEMICOLON) {
                fail(SYNTAX_ERROR);
                return;
            }
            advance();
        }

        int expectNumber(int low, int high) {
            if (kind != NUMBER) {
                fail(SYNTAX_ERROR);
                return low;
            }
            int value = 0;
            for (int i = start; i < end; i++) {
                value = value * 10 + text.bytes[i] - '0';
            }
            if (!isWithin(value, low, high)) {
                fail(RANGE_ERROR);
                return low;
            }
            advance();
            return value;
        }

        /** Finds a name without passing it: what else is wrong with it is the caller's matter. */
        int findName(Names names) {
            if (kind != WORD) {
                fail(SYNTAX_ERROR);
                return NONE;
            }
            int found = names.indexOf(text, start, end);
            if (found == NONE) {
                fail(NAME_ERROR);
            }
            return found;
        }

        void expectNewName(Names names) {
            if (kind != WORD) {
                fail(SYNTAX_ERROR);
                return;
            }
            if (end - start > MAX_NAME || names.indexOf(text, start, end) != NONE) {
                fail(NAME_ERROR);
                return;
            }
            names.prepare(text, start, end);
            advance();
        }

        private static boolean isGap(int value) {
            return value == ' ' || value == '\n';
        }
    }

    /** Reads a setup text into a recipe, which is of no use where the tokens end with an error. */
    private static final class SetupReader {
        private final Tokens tokens;

        SetupReader(Tokens tokens) {
            this.tokens = tokens;
        }

        void readInto(Recipe recipe) {
            recipe.clear();
            tokens.begin();
            readHead(recipe);
            for (int i = 0; i <= MAX_PANS && tokens.isWord("pan"); i++) {
                readPan(recipe);
            }
            readStep(recipe);
            for (int i = 1; i <= MAX_STEPS && tokens.mayGoOn(); i++) {
                readStep(recipe);
            }
        }

        private void readHead(Recipe recipe) {
            if (!tokens.accept("recipe")) {
                tokens.fail(SYNTAX_ERROR);
            }
            recipe.cooks = tokens.expectNumber(1, MAX_COOKS);
            recipe.hold = tokens.expectNumber(0, MAX_HOLD);
            recipe.lowest = tokens.expectNumber(0, MAX_DISH_TASTE);
            recipe.highest = tokens.expectNumber(recipe.lowest, MAX_DISH_TASTE);
            tokens.expectSemicolon();
        }

        private void readPan(Recipe recipe) {
            int pan = recipe.pans.count;
            if (recipe.pans.isFull()) {
                tokens.fail(COUNT_ERROR);
                return;
            }
            tokens.advance();
            tokens.expectNewName(recipe.pans);
            recipe.capacity[pan] = tokens.expectNumber(1, MAX_CAPACITY);
            tokens.expectSemicolon();
            recipe.pans.count++;
        }

        private void readStep(Recipe recipe) {
            int step = recipe.steps.count;
            if (!tokens.isWord("step")) {
                tokens.fail(SYNTAX_ERROR);
                return;
            }
            if (recipe.steps.isFull()) {
                tokens.fail(COUNT_ERROR);
                return;
            }
            tokens.advance();
            tokens.expectNewName(recipe.steps);
            recipe.duration[step] = tokens.expectNumber(1, MAX_DURATION);
            recipe.taste[step] = tokens.expectNumber(0, MAX_STEP_TASTE);
            readPanOf(recipe, step);
            if (tokens.accept("hot")) {
                recipe.hot |= 1 << step;
            }
            if (tokens.accept("alone")) {
                recipe.alone |= 1 << step;
            }
            if (tokens.accept("after")) {
                readPredecessors(recipe, step);
            }
            tokens.expectSemicolon();
            recipe.steps.count++;
        }

        private void readPanOf(Recipe recipe, int step) {
            recipe.pan[step] = NONE;
            if (tokens.accept("in")) {
                int pan = tokens.findName(recipe.pans);
                if (pan != NONE) {
                    recipe.pan[step] = pan;
                    recipe.panUsers[pan] |= 1 << step;
                    tokens.advance();
                }
            }
        }

        private void readPredecessors(Recipe recipe, int step) {
            for (int i = 0; i <= MAX_PREDECESSORS && (i == 0 || tokens.isAnyWord()); i++) {
                int before = tokens.findName(recipe.steps);
                if (before == NONE) {
                    return;
                }
                if (contains(recipe.predecessorSet[step], before)) {
                    tokens.fail(REPEATED_ERROR);
                } else if (recipe.predecessorCount[step] >= MAX_PREDECESSORS) {
                    tokens.fail(COUNT_ERROR);
                } else {
                    recipe.addPredecessor(step, before);
                    tokens.advance();
                }
            }
        }
    }

    /** Reads a script as a whole before any of it is executed. */
    private static final class ScriptReader {
        private final Tokens tokens;
        private final Command[] commands = new Command[MAX_COMMANDS];
        private final int[] steps = new int[MAX_COMMANDS];
        private final int[] numbers = new int[MAX_COMMANDS];
        private int count;

        ScriptReader(Tokens tokens) {
            this.tokens = tokens;
            // No element is ever null, so that whoever takes one may use it.
            for (int i = 0; i < MAX_COMMANDS; i++) {
                commands[i] = Command.PASS;
            }
        }

        void read(Names names) {
            count = 0;
            tokens.begin();
            for (int i = 0; i <= MAX_COMMANDS && tokens.mayGoOn(); i++) {
                readCommand(names);
            }
        }

        private void readCommand(Names names) {
            Command command = findCommand();
            if (command == null) {
                tokens.fail(SYNTAX_ERROR);
                return;
            }
            if (count >= MAX_COMMANDS) {
                tokens.fail(COUNT_ERROR);
                return;
            }
            tokens.advance();
            commands[count] = command;
            steps[count] = command.takesName ? readStepName(names) : NONE;
            numbers[count] = command.takesNumber ? tokens.expectNumber(0, MAX_NUMBER) : 0;
            tokens.expectSemicolon();
            count++;
        }

        private Command findCommand() {
            for (Command command : COMMANDS) {
                if (tokens.isWord(command.word)) {
                    return command;
                }
            }
            return null;
        }

        private int readStepName(Names names) {
            int step = tokens.findName(names);
            if (step != NONE) {
                tokens.advance();
            }
            return step;
        }
    }

    /** What a setup text says. Nothing but the next setup changes it. */
    private static final class Recipe {
        private int cooks;
        private int hold;
        private int lowest;
        private int highest;
        private final Names pans = new Names(MAX_PANS);
        private final int[] capacity = new int[MAX_PANS];
        private final int[] panUsers = new int[MAX_PANS];
        private final Names steps = new Names(MAX_STEPS);
        private final int[] duration = new int[MAX_STEPS];
        private final int[] taste = new int[MAX_STEPS];
        private final int[] pan = new int[MAX_STEPS];
        private final int[][] predecessors = new int[MAX_STEPS][MAX_PREDECESSORS];
        private final int[] predecessorCount = new int[MAX_STEPS];
        private final int[] predecessorSet = new int[MAX_STEPS];
        private final int[] successorSet = new int[MAX_STEPS];
        private int hot;
        private int alone;

        /** Forgets what a reader only adds to. */
        void clear() {
            pans.count = 0;
            steps.count = 0;
            hot = 0;
            alone = 0;
            Arrays.fill(panUsers, 0);
            Arrays.fill(predecessorCount, 0);
            Arrays.fill(predecessorSet, 0);
            Arrays.fill(successorSet, 0);
        }

        void addPredecessor(int step, int before) {
            predecessors[step][predecessorCount[step]] = before;
            predecessorCount[step]++;
            predecessorSet[step] |= 1 << before;
            successorSet[before] |= 1 << step;
        }

        int allSteps() {
            return (1 << steps.count) - 1;
        }

        int allBefore(int step) {
            int before = predecessorSet[step];
            // Predecessors have lower numbers, so one walk downwards meets every chain.
            for (int other = step - 1; other >= 0; other--) {
                if (contains(before, other)) {
                    before |= predecessorSet[other];
                }
            }
            return before;
        }
    }

    /** What undoing, saving and restoring affect. A step in none of the three sets is waiting. */
    private static final class State {
        private int cooks;
        private int minute;
        private int salt;
        private int cookMinutes;
        private int stops;
        private boolean served;
        private int running;
        private int done;
        private int burnt;
        private final int[] duration = new int[MAX_STEPS];
        private final int[] remaining = new int[MAX_STEPS];
        private final int[] age = new int[MAX_STEPS];
        private final int[] starts = new int[MAX_STEPS];
        private final int[] completions = new int[MAX_STEPS];
        private final int[] burns = new int[MAX_STEPS];

        void begin(Recipe recipe) {
            cooks = recipe.cooks;
            minute = 0;
            salt = 0;
            cookMinutes = 0;
            stops = 0;
            served = false;
            running = 0;
            done = 0;
            burnt = 0;
            System.arraycopy(recipe.duration, 0, duration, 0, MAX_STEPS);
            Arrays.fill(remaining, 0);
            Arrays.fill(age, 0);
            Arrays.fill(starts, 0);
            Arrays.fill(completions, 0);
            Arrays.fill(burns, 0);
        }

        void copyFrom(State other) {
            cooks = other.cooks;
            minute = other.minute;
            salt = other.salt;
            cookMinutes = other.cookMinutes;
            stops = other.stops;
            served = other.served;
            running = other.running;
            done = other.done;
            burnt = other.burnt;
            System.arraycopy(other.duration, 0, duration, 0, MAX_STEPS);
            System.arraycopy(other.remaining, 0, remaining, 0, MAX_STEPS);
            System.arraycopy(other.age, 0, age, 0, MAX_STEPS);
            System.arraycopy(other.starts, 0, starts, 0, MAX_STEPS);
            System.arraycopy(other.completions, 0, completions, 0, MAX_STEPS);
            System.arraycopy(other.burns, 0, burns, 0, MAX_STEPS);
        }

        int statusOf(int step) {
            if (contains(running, step)) {
                return RUNNING;
            }
            if (contains(done, step)) {
                return DONE;
            }
            return contains(burnt, step) ? BURNT : WAITING;
        }

        void start(int step) {
            burnt &= ~(1 << step);
            running |= 1 << step;
            remaining[step] = duration[step];
            starts[step]++;
        }

        void complete(int step) {
            running &= ~(1 << step);
            done |= 1 << step;
            completions[step]++;
        }

        void burn(int step) {
            done &= ~(1 << step);
            burnt |= 1 << step;
            age[step] = 0;
            burns[step]++;
        }

        int halt(int step) {
            int lost = remaining[step];
            running &= ~(1 << step);
            remaining[step] = 0;
            stops++;
            return lost;
        }

        int discard(int step) {
            int lost = age[step];
            done &= ~(1 << step);
            age[step] = 0;
            return lost;
        }
    }

    /** A recipe in some state: what can be said of it, and what a minute does to it. */
    private static final class Kitchen {
        private Recipe recipe;
        private final State state = new State();
        private final int[] path = new int[MAX_STEPS];
        private final int[] order = new int[MAX_STEPS];
        private final int[] head = new int[MAX_STEPS];

        Kitchen(Recipe recipe) {
            this.recipe = recipe;
            state.begin(recipe);
        }

        void open(Recipe next) {
            recipe = next;
            state.begin(next);
        }

        void copyFrom(Kitchen other) {
            recipe = other.recipe;
            state.copyFrom(other.state);
        }

        int runMinutes(int minutes) {
            rank();
            int completed = 0;
            for (int i = 0; i < minutes; i++) {
                completed += runMinute();
            }
            return completed;
        }

        int runToFinish() {
            rank();
            for (int minutes = 0; minutes < MAX_FORECAST; minutes++) {
                if (state.done == recipe.allSteps()) {
                    return minutes;
                }
                runMinute();
            }
            return state.done == recipe.allSteps() ? MAX_FORECAST : NONE;
        }

        int runToBurn(int step) {
            rank();
            int burns = state.burns[step];
            for (int minutes = 1; minutes <= MAX_FORECAST; minutes++) {
                runMinute();
                // A burnt step may start again in the same minute, so its status does not tell.
                if (state.burns[step] > burns) {
                    return minutes;
                }
            }
            return NONE;
        }

        /** Needs the order that rank() makes; durations do not change while minutes pass. */
        private int runMinute() {
            int completed = 0;
            if (!state.served) {
                completed = work();
                growOld(completed);
                startSteps();
            }
            state.minute++;
            return Integer.bitCount(completed);
        }

        private int work() {
            int completed = 0;
            int working = state.running;
            state.cookMinutes += Integer.bitCount(working & ~recipe.alone);
            for (int step = 0; step < recipe.steps.count; step++) {
                if (contains(working, step)) {
                    state.remaining[step]--;
                    if (state.remaining[step] == 0) {
                        state.complete(step);
                        completed |= 1 << step;
                    }
                }
            }
            return completed;
        }

        private void growOld(int completed) {
            int held = state.done & recipe.hot & ~completed;
            for (int step = 0; step < recipe.steps.count; step++) {
                if (contains(held, step) && !isContinued(step)) {
                    state.age[step]++;
                    if (state.age[step] > recipe.hold) {
                        state.burn(step);
                    }
                }
            }
        }

        private void startSteps() {
            int ready = readySteps();
            for (int i = 0; i < recipe.steps.count; i++) {
                int step = order[i];
                if (contains(ready, step) && hasFreeCook(step) && hasFreePan(step)) {
                    state.start(step);
                }
            }
        }

        private int readySteps() {
            int ready = 0;
            int idle = recipe.allSteps() & ~(state.running | state.done);
            for (int step = 0; step < recipe.steps.count; step++) {
                if (contains(idle, step) && (recipe.predecessorSet[step] & ~state.done) == 0) {
                    ready |= 1 << step;
                }
            }
            return ready;
        }

        boolean isContinued(int step) {
            return (recipe.successorSet[step] & (state.running | state.done)) != 0;
        }

        boolean isRedoable(int step) {
            return contains(state.done, step) && !isContinued(step) && !state.served;
        }

        private boolean hasFreeCook(int step) {
            return contains(recipe.alone, step)
                || Integer.bitCount(state.running & ~recipe.alone) < state.cooks;
        }

        private boolean hasFreePan(int step) {
            int pan = recipe.pan[step];
            return pan == NONE || Integer.bitCount(occupants(pan)) < recipe.capacity[pan];
        }

        int occupants(int pan) {
            int users = recipe.panUsers[pan];
            int occupants = users & state.running;
            int active = state.running | state.done;
            for (int step = 0; step < recipe.steps.count; step++) {
                int bit = 1 << step;
                if ((users & state.done & bit) != 0
                    && (recipe.successorSet[step] & ~active) != 0) {
                    occupants |= bit;
                }
            }
            return occupants;
        }

        /** Computes the path lengths and the order of phase 3 from the present durations. */
        void rank() {
            for (int step = recipe.steps.count - 1; step >= 0; step--) {
                int next = longestOf(recipe.successorSet[step]);
                path[step] = state.duration[step] + (next == NONE ? 0 : path[next]);
            }
            for (int step = 0; step < recipe.steps.count; step++) {
                int place = step;
                while (place > 0 && path[order[place - 1]] < path[step]) {
                    order[place] = order[place - 1];
                    place--;
                }
                order[place] = step;
            }
        }

        private int longestOf(int set) {
            int longest = NONE;
            for (int step = 0; step < recipe.steps.count; step++) {
                if (contains(set, step) && (longest == NONE || path[step] > path[longest])) {
                    longest = step;
                }
            }
            return longest;
        }

        int readyAt(int index) {
            rank();
            int ready = readySteps();
            int place = 0;
            for (int i = 0; i < recipe.steps.count; i++) {
                if (contains(ready, order[i])) {
                    if (place == index) {
                        return order[i];
                    }
                    place++;
                }
            }
            return NONE;
        }

        int criticalAt(int index) {
            if (!isWithin(index, 0, recipe.steps.count - 1)) {
                return NONE;
            }
            rank();
            int step = longestOf(recipe.allSteps());
            for (int i = 0; i < index && step != NONE; i++) {
                step = longestOf(recipe.successorSet[step]);
            }
            return step;
        }

        int spareMinutes(int step) {
            rank();
            for (int later = 0; later <= step; later++) {
                head[later] = 0;
                for (int earlier = 0; earlier < later; earlier++) {
                    if (contains(recipe.predecessorSet[later], earlier)) {
                        int ahead = head[earlier] + state.duration[earlier];
                        head[later] = Math.max(head[later], ahead);
                    }
                }
            }
            return path[order[0]] - path[step] - head[step];
        }

        int obstacle(int step) {
            if (contains(state.running, step)) {
                return IS_RUNNING;
            }
            if (contains(state.done, step)) {
                return IS_DONE;
            }
            if ((recipe.predecessorSet[step] & ~state.done) != 0) {
                return LACKS_PREDECESSOR;
            }
            if (!hasFreePan(step)) {
                return LACKS_PAN;
            }
            return hasFreeCook(step) ? LACKS_NOTHING : LACKS_COOK;
        }

        int blocker(int step) {
            switch (obstacle(step)) {
                case LACKS_PREDECESSOR:
                    return missingBefore(step);
                case LACKS_PAN:
                    return lowestOf(occupants(recipe.pan[step]));
                case LACKS_COOK:
                    return lowestOf(state.running & ~recipe.alone);
                default:
                    return NONE;
            }
        }

        private int missingBefore(int step) {
            for (int i = 0; i < recipe.predecessorCount[step]; i++) {
                int before = recipe.predecessors[step][i];
                if (!contains(state.done, before)) {
                    return before;
                }
            }
            return NONE;
        }

        int deepestMissing(int step) {
            int deepest = NONE;
            int next = step;
            for (int i = 0; i < MAX_STEPS && next != NONE; i++) {
                next = obstacle(next) == LACKS_PREDECESSOR ? missingBefore(next) : NONE;
                if (next != NONE) {
                    deepest = next;
                }
            }
            return deepest;
        }

        int dishTaste() {
            int sum = state.salt;
            for (int step = 0; step < recipe.steps.count; step++) {
                if (contains(state.done, step)) {
                    sum += recipe.taste[step];
                }
            }
            return sum;
        }

        int servingObstacle() {
            if (state.served) {
                return 1;
            }
            if (state.burnt != 0) {
                return 2;
            }
            if (state.done != recipe.allSteps()) {
                return 3;
            }
            if (dishTaste() < recipe.lowest) {
                return 4;
            }
            return dishTaste() > recipe.highest ? 5 : 0;
        }

        /** Counts running steps with a predecessor that was never done: there should be none. */
        int prematureSteps() {
            int everDone = 0;
            for (int step = 0; step < recipe.steps.count; step++) {
                if (state.completions[step] > 0) {
                    everDone |= 1 << step;
                }
            }
            int found = 0;
            for (int step = 0; step < recipe.steps.count; step++) {
                if (contains(state.running, step)
                    && (recipe.predecessorSet[step] & ~everDone) != 0) {
                    found++;
                }
            }
            return found;
        }
    }

    /** The states ahead of the latest changes, in a ring: the oldest one gives way. */
    private static final class History {
        private final State[] states = new State[MAX_UNDO];
        private int next;
        private int count;

        History() {
            for (int i = 0; i < MAX_UNDO; i++) {
                states[i] = new State();
            }
        }

        void push(State state) {
            states[next].copyFrom(state);
            next = (next + 1) % MAX_UNDO;
            count = Math.min(count + 1, MAX_UNDO);
        }

        void popInto(State state) {
            next = (next + MAX_UNDO - 1) % MAX_UNDO;
            state.copyFrom(states[next]);
            count--;
        }
    }
}
