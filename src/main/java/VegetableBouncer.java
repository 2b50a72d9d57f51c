import java.util.NoSuchElementException;

/** A bouncer who asks guests riddles about warped vegetables; ../shared/DOC.md holds its promises. */
public final class VegetableBouncer {
    public static final int PARSE_ERROR = -7;

    private static final int MAX_INPUT = 600;
    private static final int MAX_RIDDLES = 10;
    private static final int MAX_GUESTS = 8;
    private static final int MAX_DOORS = 4;
    private static final int MAX_VEGETABLE = 8;
    private static final int MAX_NAME = 4;
    private static final int MAX_WARP = 9;
    private static final int MAX_LEVEL = 9;
    private static final int MAX_FAILURES = 10;
    private static final int MAX_MINUTES = 999;
    private static final int LAST_HOUR = 23;
    private static final int HOUR = 60;
    private static final int HOURS = 24;
    private static final int DAY = HOURS * HOUR;
    private static final int SLOTS = 2;
    private static final int UNDOS = 6;
    /** The minutes of a door that is always open: more than any forecast reaches. */
    private static final int FOREVER = 1_000_000;
    /** No guest, riddle, door, token, minute or error offset. */
    private static final int NONE = -1;

    private static final String FIRST_TEXT = "bouncer 5 60;riddle leek 2;riddle beet 0;riddle chard 1;riddle kale 4;guest ann;guest bob;guest cid;door west 0 20 2;door east 1 1 1;ask ann;answer ann beet;ask bob;answer bob leek;ask cid;answer cid kale;enter ann west;pass 5;ask bob;pass 3;";

    private final StringBuilder input = new StringBuilder();
    private final StringBuilder output = new StringBuilder();
    private final State state;
    /** A text is carried out here first, so that an error leaves the state alone. */
    private final State draft = new State();
    private final History history = new History();
    private final State[] slots = new State[SLOTS];
    private final boolean[] isFilled = new boolean[SLOTS];
    private int errorCode = 0;
    private int errorOffset = NONE;

    public VegetableBouncer() {
        State first = new State();
        new SetupText(FIRST_TEXT, first).carryOut();
        state = first;
        for (int slot = 0; slot < SLOTS; slot++) {
            slots[slot] = new State();
        }
    }

    // ---- The input buffer and the setup text ----

    public int append(int a, int b, int c, int d, int e) throws IllegalStateException {
        if (input.length() + 20 > MAX_INPUT) {
            throw new IllegalStateException("the buffer would be too long");
        }
        appendBytes(a);
        appendBytes(b);
        appendBytes(c);
        appendBytes(d);
        appendBytes(e);
        return input.length();
    }

    private void appendBytes(int four) {
        for (int shift = 24; shift >= 0; shift -= 8) {
            input.append((char) (four >>> shift & 255));
        }
    }

    public int truncate(int length) throws IllegalArgumentException {
        requireInRange(length, 0, input.length());
        input.setLength(length);
        return length;
    }

    public int load() {
        SetupText setup = new SetupText(input.toString(), draft);
        input.setLength(0);
        boolean isRight = setup.carryOut();
        errorCode = setup.errorCode;
        errorOffset = setup.errorOffset;
        if (!isRight) {
            return PARSE_ERROR;
        }
        history.keep(state);
        state.copyFrom(draft);
        return state.guestCount;
    }

    public int errorCode() {
        return errorCode;
    }

    public int errorOffset() {
        return errorOffset;
    }

    // ---- Time ----

    public int minute() {
        return state.minute;
    }

    public int hour() {
        return state.minute / HOUR % HOURS;
    }

    // ---- Questions about a guest ----

    public int levelOf(int guest) throws IndexOutOfBoundsException {
        return guestNumbered(guest).level;
    }

    public int failuresOf(int guest) throws IndexOutOfBoundsException {
        return guestNumbered(guest).failures;
    }

    public int waitLeft(int guest) throws IndexOutOfBoundsException {
        return state.minutesToWait(guestNumbered(guest));
    }

    public int totalWait(int guest) throws IndexOutOfBoundsException {
        return guestNumbered(guest).waitSum;
    }

    public int waitIfWrong(int guest) throws IndexOutOfBoundsException {
        Guest asked = guestNumbered(guest);
        return asked.hasMostFailures() ? 0 : state.waitAfter(asked.failures + 1);
    }

    public boolean isBanned(int guest) throws IndexOutOfBoundsException {
        return guestNumbered(guest).hasMostFailures();
    }

    public int riddleOf(int guest) throws IndexOutOfBoundsException {
        return guestNumbered(guest).riddle;
    }

    public int tokenLeft(int guest) throws IndexOutOfBoundsException {
        return state.minutesOfToken(guestNumbered(guest));
    }

    public int doorOf(int guest) throws IndexOutOfBoundsException {
        return guestNumbered(guest).door;
    }

    public int rightAnswers(int guest) throws IndexOutOfBoundsException {
        return guestNumbered(guest).right;
    }

    public int wrongAnswers(int guest) throws IndexOutOfBoundsException {
        return guestNumbered(guest).wrong;
    }

    // ---- Questions about riddles ----

    public int warpOf(int riddle) throws IndexOutOfBoundsException {
        return riddleNumbered(riddle).warp;
    }

    public int askedTimes(int riddle) throws IndexOutOfBoundsException {
        return riddleNumbered(riddle).asked;
    }

    public int solvedTimes(int riddle) throws IndexOutOfBoundsException {
        return riddleNumbered(riddle).solved;
    }

    public int riddleAt(int guest, int rank) throws IndexOutOfBoundsException, NoSuchElementException {
        int level = guestNumbered(guest).level;
        for (int riddle = 0; riddle < state.riddleCount; riddle++) {
            if (state.rankOfRiddle(riddle, level) == rank) {
                return riddle;
            }
        }
        throw new NoSuchElementException("no such rank");
    }

    public int rankOf(int guest, int riddle) throws IndexOutOfBoundsException {
        int level = guestNumbered(guest).level;
        requireIndex(riddle, state.riddleCount);
        return state.rankOfRiddle(riddle, level);
    }

    public int hardestRiddle() {
        return state.leastSolvedRiddle();
    }

    // ---- Questions about the guests with a token and those who wait ----

    public int tokenCount() {
        return state.tokensIn(0);
    }

    public int tokenAt(int rank) throws NoSuchElementException {
        for (int guest = 0; guest < state.guestCount; guest++) {
            if (state.guests[guest].hasToken() && state.rankOfToken(guest) == rank) {
                return guest;
            }
        }
        throw new NoSuchElementException("no such rank");
    }

    public int waitingCount() {
        int count = 0;
        for (int guest = 0; guest < state.guestCount; guest++) {
            if (state.isWaiting(state.guests[guest])) {
                count++;
            }
        }
        return count;
    }

    public int waitingAt(int rank) throws NoSuchElementException {
        for (int guest = 0; guest < state.guestCount; guest++) {
            if (state.isWaiting(state.guests[guest]) && state.rankOfWait(guest) == rank) {
                return guest;
            }
        }
        throw new NoSuchElementException("no such rank");
    }

    // ---- Questions about a door ----

    public boolean isOpen(int door) throws IndexOutOfBoundsException {
        return doorNumbered(door).isOpenIn(state.minute);
    }

    public int hoursOpen(int door) throws IndexOutOfBoundsException {
        return doorNumbered(door).openHours();
    }

    public int opensIn(int door) throws IndexOutOfBoundsException {
        return doorNumbered(door).minutesToOpening(state.minute);
    }

    public int closesIn(int door) throws IndexOutOfBoundsException {
        int minutes = doorNumbered(door).minutesStillOpen(state.minute);
        return minutes == FOREVER ? NONE : minutes;
    }

    public int insideOf(int door) throws IndexOutOfBoundsException {
        requireIndex(door, state.doorCount);
        return state.guestsInside(door);
    }

    public int roomLeft(int door) throws IndexOutOfBoundsException {
        requireIndex(door, state.doorCount);
        return state.freePlaces(door);
    }

    // ---- Refusals and forecasts ----

    public int askRefusal(int guest) throws IndexOutOfBoundsException {
        return state.reasonNotToAsk(guestNumbered(guest));
    }

    public int enterRefusal(int guest, int door) throws IndexOutOfBoundsException {
        Guest entering = guestNumbered(guest);
        requireIndex(door, state.doorCount);
        return state.reasonNotToEnter(entering, door);
    }

    public int bestDoor(int guest) throws IndexOutOfBoundsException {
        return state.longestOpenDoor(guestNumbered(guest));
    }

    public int minutesUntilAsk(int guest) throws IndexOutOfBoundsException {
        return state.minutesToAsking(guestNumbered(guest));
    }

    public int minutesUntilEnter(int guest) throws IndexOutOfBoundsException {
        return state.minutesToEntering(guestNumbered(guest));
    }

    public int tokensAfter(int minutes) throws IllegalArgumentException {
        requireInRange(minutes, 0, DAY);
        return state.tokensIn(minutes);
    }

    public int insideAfter(int minutes) throws IllegalArgumentException {
        requireInRange(minutes, 0, DAY);
        return state.insideIn(minutes);
    }

    public int sameRanks(int guest, int other) throws IndexOutOfBoundsException {
        int level = guestNumbered(guest).level;
        int otherLevel = guestNumbered(other).level;
        int count = 0;
        for (int riddle = 0; riddle < state.riddleCount; riddle++) {
            if (state.rankOfRiddle(riddle, level) == state.rankOfRiddle(riddle, otherLevel)) {
                count++;
            }
        }
        return count;
    }

    public int answersToTop(int guest) throws IndexOutOfBoundsException {
        return MAX_LEVEL - guestNumbered(guest).level;
    }

    public int fullestDoor() {
        return state.mostVisitedDoor();
    }

    public int waitOfFailure(int failures) throws IllegalArgumentException {
        requireInRange(failures, 1, MAX_FAILURES);
        return state.waitAfter(failures);
    }

    // ---- Sums and checks ----

    public int shownOut() {
        return state.shownOut;
    }

    public int waitDifference() {
        int difference = 0;
        for (int guest = 0; guest < state.guestCount; guest++) {
            Guest one = state.guests[guest];
            difference += one.waitSum - state.base * ((1 << one.failures) - 1);
        }
        return difference;
    }

    public int riddleDifference() {
        int difference = 0;
        for (int riddle = 0; riddle < state.riddleCount; riddle++) {
            difference += state.riddles[riddle].asked;
        }
        for (int guest = 0; guest < state.guestCount; guest++) {
            Guest one = state.guests[guest];
            difference -= one.right + one.wrong + (one.hasRiddle() ? 1 : 0);
        }
        return difference;
    }

    public float rightShare() {
        int right = 0;
        int all = 0;
        for (int guest = 0; guest < state.guestCount; guest++) {
            right += state.guests[guest].right;
            all += state.guests[guest].right + state.guests[guest].wrong;
        }
        return all == 0 ? 0.0f : (float) right / (float) all;
    }

    public double averageLevel() {
        int sum = 0;
        for (int guest = 0; guest < state.guestCount; guest++) {
            sum += state.guests[guest].level;
        }
        return state.guestCount == 0 ? 0.0 : (double) sum / (double) state.guestCount;
    }

    // ---- Changes: each is kept for undo only when nothing can throw any more ----

    public int ask(int guest) throws IndexOutOfBoundsException, IllegalStateException {
        Guest asked = guestNumbered(guest);
        if (state.reasonNotToAsk(asked) != 0) {
            throw new IllegalStateException("asking is refused");
        }
        history.keep(state);
        return state.giveRiddle(asked);
    }

    public int answer(int guest) throws IndexOutOfBoundsException, IllegalArgumentException, IllegalStateException {
        Guest answering = guestNumbered(guest);
        if (!isVegetable(input)) {
            throw new IllegalArgumentException("the buffer is no answer");
        }
        if (!answering.hasRiddle()) {
            throw new IllegalStateException("the guest has no riddle");
        }
        history.keep(state);
        String word = input.toString();
        input.setLength(0);
        return state.takeAnswer(answering, word);
    }

    private static boolean isVegetable(StringBuilder word) {
        if (word.length() < 1 || word.length() > MAX_VEGETABLE) {
            return false;
        }
        for (int index = 0; index < word.length(); index++) {
            if (SetupText.kindOf(word.charAt(index)) != Kind.WORD) {
                return false;
            }
        }
        return true;
    }

    public int enter(int guest, int door) throws IndexOutOfBoundsException, IllegalStateException {
        Guest entering = guestNumbered(guest);
        requireIndex(door, state.doorCount);
        if (state.reasonNotToEnter(entering, door) != 0) {
            throw new IllegalStateException("entering is refused");
        }
        history.keep(state);
        entering.goInside(door);
        return state.guestsInside(door);
    }

    public int leave(int guest) throws IndexOutOfBoundsException, IllegalStateException {
        Guest leaving = guestNumbered(guest);
        if (!leaving.isInside()) {
            throw new IllegalStateException("the guest is outside");
        }
        history.keep(state);
        int door = leaving.door;
        leaving.door = NONE;
        return door;
    }

    public int forgive(int guest) throws IndexOutOfBoundsException {
        Guest forgiven = guestNumbered(guest);
        history.keep(state);
        int failures = forgiven.failures;
        forgiven.clearFailures();
        return failures;
    }

    public int setWarp(int riddle, int warp) throws IndexOutOfBoundsException, IllegalArgumentException {
        Riddle changed = riddleNumbered(riddle);
        requireInRange(warp, 0, MAX_WARP);
        history.keep(state);
        int former = changed.warp;
        changed.warp = warp;
        return former;
    }

    public int setHours(int door, int opens, int closes) throws IndexOutOfBoundsException, IllegalArgumentException {
        requireIndex(door, state.doorCount);
        requireInRange(opens, 0, LAST_HOUR);
        requireInRange(closes, 0, LAST_HOUR);
        history.keep(state);
        return state.changeHours(door, opens, closes);
    }

    public int pass(int minutes) throws IllegalArgumentException {
        requireInRange(minutes, 1, MAX_MINUTES);
        history.keep(state);
        return state.letPass(minutes);
    }

    public int save(int slot) throws IndexOutOfBoundsException {
        requireIndex(slot, SLOTS);
        slots[slot].copyFrom(state);
        isFilled[slot] = true;
        return state.minute;
    }

    public int restore(int slot) throws IndexOutOfBoundsException, IllegalStateException {
        requireIndex(slot, SLOTS);
        if (!isFilled[slot]) {
            throw new IllegalStateException("nothing is saved there");
        }
        history.keep(state);
        state.copyFrom(slots[slot]);
        return state.minute;
    }

    public int undo() throws IllegalStateException {
        if (history.count == 0) {
            throw new IllegalStateException("no change to undo");
        }
        history.bringBack(state);
        return history.count;
    }

    // ---- The output text ----

    public int printRiddle(int riddle) throws IndexOutOfBoundsException {
        Riddle shown = riddleNumbered(riddle);
        output.setLength(0);
        for (int index = 0; index < shown.vegetable.length(); index++) {
            output.append(warped(shown.vegetable.charAt(index), shown.warp));
        }
        return output.length();
    }

    private static char warped(char letter, int warp) {
        return (char) ('a' + (letter - 'a' + warp) % 26);
    }

    public int printDoor(int door) throws IndexOutOfBoundsException {
        requireIndex(door, state.doorCount);
        output.setLength(0);
        for (int guest = 0; guest < state.guestCount; guest++) {
            if (state.guests[guest].door == door) {
                addToList(state.guests[guest].name);
            }
        }
        if (output.length() == 0) {
            output.append('-');
        }
        return output.length();
    }

    private void addToList(String name) {
        if (output.length() > 0) {
            output.append(' ');
        }
        output.append(name);
    }

    public int outputByte(int index) throws NoSuchElementException {
        if (index < 0 || index >= output.length()) {
            throw new NoSuchElementException("no such byte");
        }
        return output.charAt(index);
    }

    // ---- Arguments ----

    private Guest guestNumbered(int guest) {
        requireIndex(guest, state.guestCount);
        return state.guests[guest];
    }

    private Riddle riddleNumbered(int riddle) {
        requireIndex(riddle, state.riddleCount);
        return state.riddles[riddle];
    }

    private Door doorNumbered(int door) {
        requireIndex(door, state.doorCount);
        return state.doors[door];
    }

    private static void requireIndex(int index, int count) {
        if (index < 0 || index >= count) {
            throw new IndexOutOfBoundsException("no such number");
        }
    }

    private static void requireInRange(int value, int least, int most) {
        if (value < least || value > most) {
            throw new IllegalArgumentException("out of range");
        }
    }

    private static final class Riddle {
        String vegetable = "";
        int warp = 0;
        int asked = 0;
        int solved = 0;

        void start(String itsVegetable, int itsWarp) {
            vegetable = itsVegetable;
            warp = itsWarp;
            asked = 0;
            solved = 0;
        }

        void copyFrom(Riddle other) {
            vegetable = other.vegetable;
            warp = other.warp;
            asked = other.asked;
            solved = other.solved;
        }

        int distanceTo(int level) {
            return warp >= level ? warp - level : level - warp;
        }

        int unsolvedTimes() {
            return asked - solved;
        }
    }

    private static final class Guest {
        String name = "";
        int level = 0;
        int failures = 0;
        int waitUntil = 0;
        int waitSum = 0;
        int riddle = NONE;
        int tokenUntil = NONE;
        int door = NONE;
        int right = 0;
        int wrong = 0;

        void start(String itsName) {
            name = itsName;
            level = 0;
            failures = 0;
            waitUntil = 0;
            waitSum = 0;
            riddle = NONE;
            tokenUntil = NONE;
            door = NONE;
            right = 0;
            wrong = 0;
        }

        void copyFrom(Guest other) {
            name = other.name;
            level = other.level;
            failures = other.failures;
            waitUntil = other.waitUntil;
            waitSum = other.waitSum;
            riddle = other.riddle;
            tokenUntil = other.tokenUntil;
            door = other.door;
            right = other.right;
            wrong = other.wrong;
        }

        boolean hasMostFailures() {
            return failures >= MAX_FAILURES;
        }

        /** Looked at from both ends, since the riddle is an index wherever there is one. */
        boolean hasRiddle() {
            return riddle >= 0 && riddle < MAX_RIDDLES;
        }

        boolean hasToken() {
            return tokenUntil != NONE;
        }

        /** Looked at from both ends, since the door is an index wherever there is one. */
        boolean isInside() {
            return door >= 0 && door < MAX_DOORS;
        }

        void clearFailures() {
            failures = 0;
            waitUntil = 0;
            waitSum = 0;
        }

        void countRight(int itsTokenUntil) {
            right++;
            level = Math.min(level + 1, MAX_LEVEL);
            clearFailures();
            tokenUntil = itsTokenUntil;
        }

        void goInside(int itsDoor) {
            door = itsDoor;
            tokenUntil = NONE;
        }
    }

    private static final class Door {
        String name = "";
        int opens = 0;
        int closes = 0;
        int room = 1;

        void start(String itsName, int itsOpens, int itsCloses, int itsRoom) {
            name = itsName;
            opens = itsOpens;
            closes = itsCloses;
            room = itsRoom;
        }

        void copyFrom(Door other) {
            name = other.name;
            opens = other.opens;
            closes = other.closes;
            room = other.room;
        }

        boolean isOpenIn(int minute) {
            if (opens == closes) {
                return true;
            }
            int hour = minute / HOUR % HOURS;
            if (opens < closes) {
                return hour >= opens && hour < closes;
            }
            return hour >= opens || hour < closes;
        }

        int openHours() {
            return opens == closes ? HOURS : Math.floorMod(closes - opens, HOURS);
        }

        int minutesToOpening(int minute) {
            return isOpenIn(minute) ? 0 : Math.floorMod(opens * HOUR - minute, DAY);
        }

        /** 0 if it is closed, FOREVER if it is always open. */
        int minutesStillOpen(int minute) {
            if (opens == closes) {
                return FOREVER;
            }
            return isOpenIn(minute) ? Math.floorMod(closes * HOUR - minute, DAY) : 0;
        }

        /** For an open door: the minutes until all are shown out and it opens again. */
        int minutesToEmptyOpening(int minute) {
            return minutesStillOpen(minute) + DAY - openHours() * HOUR;
        }
    }

    /** Everything that undo brings back. */
    private static final class State {
        final Riddle[] riddles = new Riddle[MAX_RIDDLES];
        final Guest[] guests = new Guest[MAX_GUESTS];
        final Door[] doors = new Door[MAX_DOORS];
        int riddleCount = 0;
        int guestCount = 0;
        int doorCount = 0;
        int base = 1;
        int tokenMinutes = 1;
        int minute = 0;
        int shownOut = 0;

        State() {
            for (int riddle = 0; riddle < MAX_RIDDLES; riddle++) {
                riddles[riddle] = new Riddle();
            }
            for (int guest = 0; guest < MAX_GUESTS; guest++) {
                guests[guest] = new Guest();
            }
            for (int door = 0; door < MAX_DOORS; door++) {
                doors[door] = new Door();
            }
        }

        void start(int itsBase, int itsTokenMinutes) {
            base = itsBase;
            tokenMinutes = itsTokenMinutes;
            riddleCount = 0;
            guestCount = 0;
            doorCount = 0;
            minute = 0;
            shownOut = 0;
        }

        void copyFrom(State other) {
            for (int riddle = 0; riddle < other.riddleCount; riddle++) {
                riddles[riddle].copyFrom(other.riddles[riddle]);
            }
            for (int guest = 0; guest < other.guestCount; guest++) {
                guests[guest].copyFrom(other.guests[guest]);
            }
            for (int door = 0; door < other.doorCount; door++) {
                doors[door].copyFrom(other.doors[door]);
            }
            riddleCount = other.riddleCount;
            guestCount = other.guestCount;
            doorCount = other.doorCount;
            base = other.base;
            tokenMinutes = other.tokenMinutes;
            minute = other.minute;
            shownOut = other.shownOut;
        }

        // Making and finding

        boolean isFullOfRiddles() {
            return riddleCount >= MAX_RIDDLES;
        }

        boolean isFullOfGuests() {
            return guestCount >= MAX_GUESTS;
        }

        boolean isFullOfDoors() {
            return doorCount >= MAX_DOORS;
        }

        void addRiddle(String vegetable, int warp) {
            if (!isFullOfRiddles()) {
                riddles[riddleCount].start(vegetable, warp);
                riddleCount++;
            }
        }

        void addGuest(String name) {
            if (!isFullOfGuests()) {
                guests[guestCount].start(name);
                guestCount++;
            }
        }

        void addDoor(String name, int opens, int closes, int room) {
            if (!isFullOfDoors()) {
                doors[doorCount].start(name, opens, closes, room);
                doorCount++;
            }
        }

        int riddleNamed(String vegetable) {
            for (int riddle = 0; riddle < riddleCount; riddle++) {
                if (riddles[riddle].vegetable.equals(vegetable)) {
                    return riddle;
                }
            }
            return NONE;
        }

        int guestNamed(String name) {
            for (int guest = 0; guest < guestCount; guest++) {
                if (guests[guest].name.equals(name)) {
                    return guest;
                }
            }
            return NONE;
        }

        int doorNamed(String name) {
            for (int door = 0; door < doorCount; door++) {
                if (doors[door].name.equals(name)) {
                    return door;
                }
            }
            return NONE;
        }

        // Waits and tokens

        int waitAfter(int failures) {
            return base * (1 << (failures - 1));
        }

        boolean isWaiting(Guest guest) {
            return minute < guest.waitUntil;
        }

        int minutesToWait(Guest guest) {
            return isWaiting(guest) ? guest.waitUntil - minute : 0;
        }

        int minutesOfToken(Guest guest) {
            return guest.hasToken() ? guest.tokenUntil - minute : 0;
        }

        int rankOfToken(int guest) {
            int rank = 0;
            for (int other = 0; other < guestCount; other++) {
                if (guests[other].hasToken() && tokenComesBefore(other, guest)) {
                    rank++;
                }
            }
            return rank;
        }

        private boolean tokenComesBefore(int guest, int other) {
            if (guests[guest].tokenUntil != guests[other].tokenUntil) {
                return guests[guest].tokenUntil < guests[other].tokenUntil;
            }
            return guest < other;
        }

        int rankOfWait(int guest) {
            int rank = 0;
            for (int other = 0; other < guestCount; other++) {
                if (isWaiting(guests[other]) && waitComesBefore(other, guest)) {
                    rank++;
                }
            }
            return rank;
        }

        private boolean waitComesBefore(int guest, int other) {
            if (guests[guest].waitUntil != guests[other].waitUntil) {
                return guests[guest].waitUntil < guests[other].waitUntil;
            }
            if (guests[guest].failures != guests[other].failures) {
                return guests[guest].failures > guests[other].failures;
            }
            return guest < other;
        }

        // Riddles

        int rankOfRiddle(int riddle, int level) {
            int rank = 0;
            for (int other = 0; other < riddleCount; other++) {
                if (riddleComesBefore(other, riddle, level)) {
                    rank++;
                }
            }
            return rank;
        }

        private boolean riddleComesBefore(int riddle, int other, int level) {
            int distance = riddles[riddle].distanceTo(level);
            int otherDistance = riddles[other].distanceTo(level);
            if (distance != otherDistance) {
                return distance < otherDistance;
            }
            if (riddles[riddle].asked != riddles[other].asked) {
                return riddles[riddle].asked < riddles[other].asked;
            }
            return riddle < other;
        }

        int leastSolvedRiddle() {
            int hardest = NONE;
            int most = NONE;
            for (int riddle = 0; riddle < riddleCount; riddle++) {
                if (riddles[riddle].unsolvedTimes() > most) {
                    most = riddles[riddle].unsolvedTimes();
                    hardest = riddle;
                }
            }
            return hardest;
        }

        int reasonNotToAsk(Guest guest) {
            if (guest.isInside()) {
                return 1;
            }
            if (guest.hasMostFailures()) {
                return 2;
            }
            if (isWaiting(guest)) {
                return 3;
            }
            if (guest.hasToken()) {
                return 4;
            }
            if (guest.hasRiddle()) {
                return 5;
            }
            return riddleCount == 0 ? 6 : 0;
        }

        /** Only for a guest whom reasonNotToAsk does not refuse, so that there is a riddle. */
        int giveRiddle(Guest guest) {
            int first = 0;
            for (int riddle = 1; riddle < riddleCount; riddle++) {
                if (riddleComesBefore(riddle, first, guest.level)) {
                    first = riddle;
                }
            }
            riddles[first].asked++;
            guest.riddle = first;
            return first;
        }

        /** Only for a guest who has a riddle. */
        int takeAnswer(Guest guest, String word) {
            Riddle riddle = riddles[guest.riddle];
            guest.riddle = NONE;
            if (riddle.vegetable.equals(word)) {
                riddle.solved++;
                guest.countRight(minute + tokenMinutes);
                return 0;
            }
            guest.wrong++;
            guest.failures++;
            int wait = waitAfter(guest.failures);
            guest.waitUntil = minute + wait;
            guest.waitSum += wait;
            return wait;
        }

        // Doors

        int guestsInside(int door) {
            int count = 0;
            for (int guest = 0; guest < guestCount; guest++) {
                if (guests[guest].door == door) {
                    count++;
                }
            }
            return count;
        }

        int freePlaces(int door) {
            return doors[door].room - guestsInside(door);
        }

        int mostVisitedDoor() {
            int fullest = NONE;
            int most = NONE;
            for (int door = 0; door < doorCount; door++) {
                if (guestsInside(door) > most) {
                    most = guestsInside(door);
                    fullest = door;
                }
            }
            return fullest;
        }

        int reasonNotToEnter(Guest guest, int door) {
            if (guest.isInside()) {
                return 1;
            }
            if (!guest.hasToken()) {
                return 2;
            }
            if (!doors[door].isOpenIn(minute)) {
                return 3;
            }
            return freePlaces(door) <= 0 ? 4 : 0;
        }

        int longestOpenDoor(Guest guest) {
            int best = NONE;
            int longest = NONE;
            for (int door = 0; door < doorCount; door++) {
                int minutes = doors[door].minutesStillOpen(minute);
                if (reasonNotToEnter(guest, door) == 0 && minutes > longest) {
                    longest = minutes;
                    best = door;
                }
            }
            return best;
        }

        int changeHours(int door, int opens, int closes) {
            doors[door].opens = opens;
            doors[door].closes = closes;
            return doors[door].isOpenIn(minute) ? 0 : emptyDoor(door);
        }

        private int emptyDoor(int door) {
            int count = 0;
            for (int guest = 0; guest < guestCount; guest++) {
                if (guests[guest].door == door) {
                    guests[guest].door = NONE;
                    count++;
                }
            }
            shownOut += count;
            return count;
        }

        // Minutes to come

        /** Tokens and doors do not touch each other while only minutes pass, so no minute needs a step of its own. */
        int letPass(int minutes) {
            int expired = 0;
            for (int guest = 0; guest < guestCount; guest++) {
                if (guests[guest].hasToken() && !keepsToken(guests[guest], minutes)) {
                    guests[guest].tokenUntil = NONE;
                    expired++;
                }
            }
            for (int door = 0; door < doorCount; door++) {
                if (doors[door].minutesStillOpen(minute) <= minutes) {
                    emptyDoor(door);
                }
            }
            minute += minutes;
            return expired;
        }

        private boolean keepsToken(Guest guest, int minutes) {
            return guest.hasToken() && guest.tokenUntil - minute > minutes;
        }

        int tokensIn(int minutes) {
            int count = 0;
            for (int guest = 0; guest < guestCount; guest++) {
                if (keepsToken(guests[guest], minutes)) {
                    count++;
                }
            }
            return count;
        }

        int insideIn(int minutes) {
            int count = 0;
            for (int door = 0; door < doorCount; door++) {
                if (doors[door].minutesStillOpen(minute) > minutes) {
                    count += guestsInside(door);
                }
            }
            return count;
        }

        int minutesToAsking(Guest guest) {
            if (guest.hasMostFailures() || guest.hasRiddle() || riddleCount == 0) {
                return NONE;
            }
            int waiting = Math.max(minutesToWait(guest), minutesOfToken(guest));
            int minutes = Math.max(minutesInside(guest), waiting);
            return minutes > DAY ? NONE : minutes;
        }

        private int minutesInside(Guest guest) {
            return guest.isInside() ? doors[guest.door].minutesStillOpen(minute) : 0;
        }

        /** Only a guest with a token can enter, and a token lasts less than a day. */
        int minutesToEntering(Guest guest) {
            int soonest = FOREVER;
            for (int door = 0; door < doorCount; door++) {
                soonest = Math.min(soonest, minutesToPlace(door));
            }
            return keepsToken(guest, soonest) ? soonest : NONE;
        }

        /** Nobody is inside a closed door, so there is room when it opens. */
        private int minutesToPlace(int door) {
            if (doors[door].isOpenIn(minute) && freePlaces(door) <= 0) {
                return doors[door].minutesToEmptyOpening(minute);
            }
            return doors[door].minutesToOpening(minute);
        }
    }

    /** The states before the latest changes, in a ring. */
    private static final class History {
        private final State[] kept = new State[UNDOS];
        private int next = 0;
        int count = 0;

        History() {
            for (int place = 0; place < UNDOS; place++) {
                kept[place] = new State();
            }
        }

        void keep(State state) {
            kept[next].copyFrom(state);
            next = (next + 1) % UNDOS;
            count = Math.min(count + 1, UNDOS);
        }

        /** Only if count is not 0. */
        void bringBack(State state) {
            next = (next + UNDOS - 1) % UNDOS;
            count--;
            state.copyFrom(kept[next]);
        }
    }

    /** What a byte of a setup text belongs to. */
    private enum Kind { WORD, NUMBER, SEMICOLON, OTHER }

    /** Carries out one setup text on a state; each step answers false at the first error, which it notes. */
    private static final class SetupText {
        private static final int NOT_ALLOWED = 1;
        private static final int OUT_OF_RANGE = 2;
        private static final int TAKEN = 3;
        private static final int UNKNOWN = 4;
        private static final int TOO_MANY = 5;
        private static final int REFUSED = 6;
        private static final int MAX_BASE = 30;
        private static final int MAX_ROOM = 9;

        private final String text;
        private final State state;
        private int at = 0;
        private int start = 0;
        private String word = "";
        private int number = 0;
        private int guest = 0;
        private int door = 0;
        int errorCode = 0;
        int errorOffset = NONE;

        SetupText(String itsText, State itsState) {
            text = itsText;
            state = itsState;
        }

        boolean carryOut() {
            if (!readBouncer()) {
                return false;
            }
            skipBlanks();
            for (int statement = 0; statement < MAX_INPUT && at < text.length(); statement++) {
                if (!readStatement()) {
                    return false;
                }
                skipBlanks();
            }
            return true;
        }

        private boolean readStatement() {
            if (!readToken(Kind.WORD)) {
                return false;
            }
            if (word.equals("riddle")) {
                return readRiddle();
            }
            if (word.equals("guest")) {
                return readNewGuest();
            }
            if (word.equals("door")) {
                return readNewDoor();
            }
            if (word.equals("ask")) {
                return readAsk();
            }
            if (word.equals("answer")) {
                return readAnswer();
            }
            if (word.equals("enter")) {
                return readEnter();
            }
            if (word.equals("leave")) {
                return readLeave();
            }
            if (word.equals("forgive")) {
                return readForgive();
            }
            if (word.equals("warp")) {
                return readWarp();
            }
            if (word.equals("hours")) {
                return readHours();
            }
            if (word.equals("pass")) {
                return readPass();
            }
            return fail(NOT_ALLOWED);
        }

        // Statements

        private boolean readBouncer() {
            if (!readToken(Kind.WORD)) {
                return false;
            }
            if (!word.equals("bouncer")) {
                return fail(NOT_ALLOWED);
            }
            if (!readNumber(1, MAX_BASE)) {
                return false;
            }
            int base = number;
            if (!readNumber(1, MAX_MINUTES) || !readSemicolon()) {
                return false;
            }
            state.start(base, number);
            return true;
        }

        private boolean readRiddle() {
            if (state.isFullOfRiddles()) {
                return fail(TOO_MANY);
            }
            if (!readToken(Kind.WORD)) {
                return false;
            }
            if (word.length() > MAX_VEGETABLE) {
                return fail(OUT_OF_RANGE);
            }
            if (state.riddleNamed(word) != NONE) {
                return fail(TAKEN);
            }
            if (!readNumber(0, MAX_WARP) || !readSemicolon()) {
                return false;
            }
            state.addRiddle(word, number);
            return true;
        }

        private boolean readNewGuest() {
            if (state.isFullOfGuests()) {
                return fail(TOO_MANY);
            }
            if (!readNewName() || !readSemicolon()) {
                return false;
            }
            state.addGuest(word);
            return true;
        }

        private boolean readNewDoor() {
            if (state.isFullOfDoors()) {
                return fail(TOO_MANY);
            }
            if (!readNewName() || !readNumber(0, LAST_HOUR)) {
                return false;
            }
            int opens = number;
            if (!readNumber(0, LAST_HOUR)) {
                return false;
            }
            int closes = number;
            if (!readNumber(1, MAX_ROOM) || !readSemicolon()) {
                return false;
            }
            state.addDoor(word, opens, closes, number);
            return true;
        }

        private boolean readAsk() {
            if (!readGuest() || !readSemicolon()) {
                return false;
            }
            if (state.reasonNotToAsk(state.guests[guest]) != 0) {
                return fail(REFUSED);
            }
            state.giveRiddle(state.guests[guest]);
            return true;
        }

        private boolean readAnswer() {
            if (!readGuest() || !readToken(Kind.WORD) || !readSemicolon()) {
                return false;
            }
            if (!state.guests[guest].hasRiddle()) {
                return fail(REFUSED);
            }
            state.takeAnswer(state.guests[guest], word);
            return true;
        }

        private boolean readEnter() {
            if (!readGuest() || !readDoor() || !readSemicolon()) {
                return false;
            }
            if (state.reasonNotToEnter(state.guests[guest], door) != 0) {
                return fail(REFUSED);
            }
            state.guests[guest].goInside(door);
            return true;
        }

        private boolean readLeave() {
            if (!readGuest() || !readSemicolon()) {
                return false;
            }
            if (!state.guests[guest].isInside()) {
                return fail(REFUSED);
            }
            state.guests[guest].door = NONE;
            return true;
        }

        private boolean readForgive() {
            if (!readGuest() || !readSemicolon()) {
                return false;
            }
            state.guests[guest].clearFailures();
            return true;
        }

        private boolean readWarp() {
            if (!readToken(Kind.WORD)) {
                return false;
            }
            int riddle = state.riddleNamed(word);
            if (riddle == NONE) {
                return fail(UNKNOWN);
            }
            if (!readNumber(0, MAX_WARP) || !readSemicolon()) {
                return false;
            }
            state.riddles[riddle].warp = number;
            return true;
        }

        private boolean readHours() {
            if (!readDoor() || !readNumber(0, LAST_HOUR)) {
                return false;
            }
            int opens = number;
            if (!readNumber(0, LAST_HOUR) || !readSemicolon()) {
                return false;
            }
            state.changeHours(door, opens, number);
            return true;
        }

        private boolean readPass() {
            if (!readNumber(0, MAX_MINUTES) || !readSemicolon()) {
                return false;
            }
            state.letPass(number);
            return true;
        }

        // Parts of statements

        private boolean readNewName() {
            if (!readToken(Kind.WORD)) {
                return false;
            }
            if (word.length() > MAX_NAME) {
                return fail(OUT_OF_RANGE);
            }
            if (state.guestNamed(word) != NONE || state.doorNamed(word) != NONE) {
                return fail(TAKEN);
            }
            return true;
        }

        private boolean readGuest() {
            if (!readToken(Kind.WORD)) {
                return false;
            }
            guest = state.guestNamed(word);
            return guest != NONE || fail(UNKNOWN);
        }

        private boolean readDoor() {
            if (!readToken(Kind.WORD)) {
                return false;
            }
            door = state.doorNamed(word);
            return door != NONE || fail(UNKNOWN);
        }

        private boolean readNumber(int least, int most) {
            if (!readToken(Kind.NUMBER)) {
                return false;
            }
            number = valueOfDigits();
            return number >= least && number <= most || fail(OUT_OF_RANGE);
        }

        /** No number of the form is above MAX_MINUTES, so a longer run of digits need not be counted out. */
        private int valueOfDigits() {
            int value = 0;
            for (int index = start; index < at; index++) {
                value = Math.min(value * 10 + text.charAt(index) - '0', MAX_MINUTES + 1);
            }
            return value;
        }

        private boolean readSemicolon() {
            return readToken(Kind.SEMICOLON);
        }

        // Tokens

        /** A word that was read stays in the field word until the next one. */
        private boolean readToken(Kind wanted) {
            skipBlanks();
            start = at;
            if (at >= text.length() || kindOf(text.charAt(at)) != wanted) {
                return fail(NOT_ALLOWED);
            }
            at++;
            while (wanted != Kind.SEMICOLON && at < text.length() && kindOf(text.charAt(at)) == wanted) {
                at++;
            }
            if (wanted == Kind.WORD) {
                word = text.substring(start, at);
            }
            return true;
        }

        private void skipBlanks() {
            while (at < text.length() && (text.charAt(at) == ' ' || text.charAt(at) == '\n')) {
                at++;
            }
        }

        static Kind kindOf(char sign) {
            if (sign >= 'a' && sign <= 'z') {
                return Kind.WORD;
            }
            if (sign >= '0' && sign <= '9') {
                return Kind.NUMBER;
            }
            return sign == ';' ? Kind.SEMICOLON : Kind.OTHER;
        }

        private boolean fail(int code) {
            errorCode = code;
            errorOffset = start;
            return false;
        }
    }
}
