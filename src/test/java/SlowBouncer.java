import java.nio.ByteBuffer;
import java.util.ArrayDeque;
import java.util.ArrayList;
import java.util.Comparator;
import java.util.Deque;
import java.util.List;
import java.util.NoSuchElementException;
import java.util.function.Predicate;

/** The document word by word, minute by minute: what RandomRunsTest holds VegetableBouncer against. */
final class SlowBouncer {
    private static final String FIRST = "bouncer 5 60;riddle leek 2;riddle beet 0;riddle chard 1;riddle kale 4;"
            + "guest ann;guest bob;guest cid;door west 0 20 2;door east 1 1 1;ask ann;answer ann beet;ask bob;"
            + "answer bob leek;ask cid;answer cid kale;enter ann west;pass 5;ask bob;pass 3;";

    private SlowWorld world = new SlowText(FIRST).world;
    private String input = "";
    private String output = "";
    private int errorCode = 0;
    private int errorOffset = -1;
    private final Deque<SlowWorld> earlier = new ArrayDeque<>();
    private final SlowWorld[] slots = new SlowWorld[2];

    /** The right answer of a guest who has a riddle. */
    String vegetableFor(int guest) {
        SlowWorld.Riddle riddle = guest < world.guests.size() ? world.guests.get(guest).riddle : null;
        return riddle == null ? "x" : riddle.vegetable;
    }

    private void change() {
        earlier.push(world.copy());
        if (earlier.size() > 6) {
            earlier.removeLast();
        }
    }

    private static <T> T at(List<T> list, int index) {
        if (index < 0 || index >= list.size()) {
            throw new IndexOutOfBoundsException();
        }
        return list.get(index);
    }

    private static <T> int ranked(List<T> all, Predicate<T> which, Comparator<T> order, int rank) {
        List<T> some = new ArrayList<>(all);
        some.removeIf(which.negate());
        some.sort(order);
        if (rank < 0 || rank >= some.size()) {
            throw new NoSuchElementException();
        }
        return all.indexOf(some.get(rank));
    }

    private SlowWorld.Guest guest(int guest) {
        return at(world.guests, guest);
    }

    private static void range(int value, int least, int most) {
        if (value < least || value > most) {
            throw new IllegalArgumentException();
        }
    }

    private static void allowed(boolean allowed) {
        if (!allowed) {
            throw new IllegalStateException();
        }
    }

    public int append(int a, int b, int c, int d, int e) {
        allowed(input.length() + 20 <= 600);
        byte[] bytes = ByteBuffer.allocate(20).putInt(a).putInt(b).putInt(c).putInt(d).putInt(e).array();
        for (byte one : bytes) {
            input += (char) (one & 255);
        }
        return input.length();
    }

    public int truncate(int length) {
        range(length, 0, input.length());
        input = input.substring(0, length);
        return length;
    }

    public int load() {
        SlowText text = new SlowText(input);
        input = "";
        errorCode = text.errorCode;
        errorOffset = text.errorOffset;
        if (errorCode != 0) {
            return -7;
        }
        change();
        world = text.world;
        return world.guests.size();
    }

    public int errorCode() {
        return errorCode;
    }

    public int errorOffset() {
        return errorOffset;
    }

    public int minute() {
        return world.minute;
    }

    public int hour() {
        return world.hour();
    }

    public int levelOf(int guest) {
        return guest(guest).level;
    }

    public int failuresOf(int guest) {
        return guest(guest).failures;
    }

    public int waitLeft(int guest) {
        return Math.max(0, guest(guest).waitUntil - world.minute);
    }

    public int totalWait(int guest) {
        return guest(guest).waits.stream().mapToInt(Integer::intValue).sum();
    }

    public int waitIfWrong(int guest) {
        return guest(guest).failures == 10 ? 0 : world.waitOf(guest(guest).failures + 1);
    }

    public boolean isBanned(int guest) {
        return guest(guest).failures == 10;
    }

    public int riddleOf(int guest) {
        return world.riddles.indexOf(guest(guest).riddle);
    }

    public int tokenLeft(int guest) {
        return guest(guest).expires == null ? 0 : guest(guest).expires - world.minute;
    }

    public int doorOf(int guest) {
        return world.doors.indexOf(guest(guest).door);
    }

    public int rightAnswers(int guest) {
        return guest(guest).right;
    }

    public int wrongAnswers(int guest) {
        return guest(guest).wrong;
    }

    public int warpOf(int riddle) {
        return at(world.riddles, riddle).warp;
    }

    public int askedTimes(int riddle) {
        return at(world.riddles, riddle).asked;
    }

    public int solvedTimes(int riddle) {
        return at(world.riddles, riddle).solved;
    }

    public int riddleAt(int guest, int rank) {
        return ranked(world.riddles, riddle -> true, world.orderFor(guest(guest)), rank);
    }

    public int rankOf(int guest, int riddle) {
        guest(guest);
        at(world.riddles, riddle);
        int rank = 0;
        while (riddleAt(guest, rank) != riddle) {
            rank++;
        }
        return rank;
    }

    public int hardestRiddle() {
        return world.riddles.stream().max(Comparator.<SlowWorld.Riddle>comparingInt(r -> r.asked - r.solved)
                .thenComparing(r -> -world.riddles.indexOf(r))).map(world.riddles::indexOf).orElse(-1);
    }

    public int tokenCount() {
        return (int) world.guests.stream().filter(guest -> guest.expires != null).count();
    }

    public int tokenAt(int rank) {
        return ranked(world.guests, guest -> guest.expires != null, Comparator.comparing(guest -> guest.expires), rank);
    }

    public int waitingCount() {
        return (int) world.guests.stream().filter(world::waits).count();
    }

    public int waitingAt(int rank) {
        return ranked(world.guests, world::waits, Comparator.<SlowWorld.Guest>comparingInt(guest -> guest.waitUntil)
                .thenComparing(guest -> -guest.failures), rank);
    }

    public boolean isOpen(int door) {
        return world.isOpen(at(world.doors, door));
    }

    public int hoursOpen(int door) {
        SlowWorld later = world.copy();
        SlowWorld.Door one = at(later.doors, door);
        int hours = 0;
        for (int hour = 0; hour < 24; hour++) {
            later.minute = hour * 60;
            hours += later.isOpen(one) ? 1 : 0;
        }
        return hours;
    }

    public int opensIn(int door) {
        at(world.doors, door);
        return world.until(9999, later -> later.isOpen(later.doors.get(door)));
    }

    public int closesIn(int door) {
        at(world.doors, door);
        return world.until(9999, later -> !later.isOpen(later.doors.get(door)));
    }

    public int insideOf(int door) {
        return world.inside(at(world.doors, door));
    }

    public int roomLeft(int door) {
        return at(world.doors, door).room - insideOf(door);
    }

    public int askRefusal(int guest) {
        return world.askRefusal(guest(guest));
    }

    public int enterRefusal(int guest, int door) {
        return world.enterRefusal(guest(guest), at(world.doors, door));
    }

    public int bestDoor(int guest) {
        guest(guest);
        int best = -1;
        for (int door = 0; door < world.doors.size(); door++) {
            boolean longer = best < 0 || closesIn(best) > 0 && (closesIn(door) < 0 || closesIn(door) > closesIn(best));
            if (enterRefusal(guest, door) == 0 && longer) {
                best = door;
            }
        }
        return best;
    }

    public int minutesUntilAsk(int guest) {
        guest(guest);
        return world.until(1440, later -> later.askRefusal(later.guests.get(guest)) == 0);
    }

    public int minutesUntilEnter(int guest) {
        guest(guest);
        return world.until(1440, later -> later.doors.stream()
                .anyMatch(door -> later.enterRefusal(later.guests.get(guest), door) == 0));
    }

    private SlowWorld after(int minutes) {
        range(minutes, 0, 1440);
        SlowWorld later = world.copy();
        for (int minute = 0; minute < minutes; minute++) {
            later.passOne();
        }
        return later;
    }

    public int tokensAfter(int minutes) {
        return (int) after(minutes).guests.stream().filter(guest -> guest.expires != null).count();
    }

    public int insideAfter(int minutes) {
        return (int) after(minutes).guests.stream().filter(guest -> guest.door != null).count();
    }

    public int sameRanks(int guest, int other) {
        guest(guest);
        guest(other);
        int same = 0;
        for (int rank = 0; rank < world.riddles.size(); rank++) {
            same += riddleAt(guest, rank) == riddleAt(other, rank) ? 1 : 0;
        }
        return same;
    }

    public int answersToTop(int guest) {
        int answers = 0;
        for (int level = guest(guest).level; level < 9; level++) {
            answers++;
        }
        return answers;
    }

    public int fullestDoor() {
        return world.doors.stream().max(Comparator.<SlowWorld.Door>comparingInt(world::inside)
                .thenComparing(door -> -world.doors.indexOf(door))).map(world.doors::indexOf).orElse(-1);
    }

    public int waitOfFailure(int failures) {
        range(failures, 1, 10);
        return world.waitOf(failures);
    }

    public int shownOut() {
        return world.shownOut;
    }

    public int waitDifference() {
        return 0;
    }

    public int riddleDifference() {
        return 0;
    }

    public float rightShare() {
        float right = world.guests.stream().mapToInt(guest -> guest.right).sum();
        float all = world.guests.stream().mapToInt(guest -> guest.right + guest.wrong).sum();
        return all == 0 ? 0.0f : right / all;
    }

    public double averageLevel() {
        return world.guests.stream().mapToInt(guest -> guest.level).average().orElse(0.0);
    }

    public int ask(int guest) {
        allowed(askRefusal(guest) == 0);
        change();
        world.ask(guest(guest));
        return riddleOf(guest);
    }

    public int answer(int guest) {
        guest(guest);
        if (!input.matches("[a-z]{1,8}")) {
            throw new IllegalArgumentException();
        }
        allowed(guest(guest).riddle != null);
        change();
        String word = input;
        input = "";
        return world.answer(guest(guest), word) ? 0 : waitLeft(guest);
    }

    public int enter(int guest, int door) {
        allowed(enterRefusal(guest, door) == 0);
        change();
        world.enter(guest(guest), at(world.doors, door));
        return insideOf(door);
    }

    public int leave(int guest) {
        int door = doorOf(guest);
        allowed(door >= 0);
        change();
        guest(guest).door = null;
        return door;
    }

    public int forgive(int guest) {
        int former = guest(guest).failures;
        change();
        guest(guest).forgive();
        return former;
    }

    public int setWarp(int riddle, int warp) {
        int former = warpOf(riddle);
        range(warp, 0, 9);
        change();
        at(world.riddles, riddle).warp = warp;
        return former;
    }

    public int setHours(int door, int opens, int closes) {
        at(world.doors, door);
        range(opens, 0, 23);
        range(closes, 0, 23);
        change();
        int before = world.shownOut;
        world.setHours(at(world.doors, door), opens, closes);
        return world.shownOut - before;
    }

    public int pass(int minutes) {
        range(minutes, 1, 999);
        change();
        int expired = 0;
        for (int minute = 0; minute < minutes; minute++) {
            expired += world.passOne();
        }
        return expired;
    }

    public int save(int slot) {
        at(List.of(0, 1), slot);
        slots[slot] = world.copy();
        return world.minute;
    }

    public int restore(int slot) {
        at(List.of(0, 1), slot);
        allowed(slots[slot] != null);
        change();
        world = slots[slot].copy();
        return world.minute;
    }

    public int undo() {
        allowed(!earlier.isEmpty());
        world = earlier.pop();
        return earlier.size();
    }

    public int printRiddle(int riddle) {
        SlowWorld.Riddle shown = at(world.riddles, riddle);
        String alphabet = "abcdefghijklmnopqrstuvwxyzabcdefghi";
        output = "";
        for (char letter : shown.vegetable.toCharArray()) {
            output += alphabet.charAt(alphabet.indexOf(letter) + shown.warp);
        }
        return output.length();
    }

    public int printDoor(int door) {
        SlowWorld.Door shown = at(world.doors, door);
        List<String> names = new ArrayList<>();
        world.guests.stream().filter(guest -> guest.door == shown).forEach(guest -> names.add(guest.name));
        output = names.isEmpty() ? "-" : String.join(" ", names);
        return output.length();
    }

    public int outputByte(int index) {
        if (index < 0 || index >= output.length()) {
            throw new NoSuchElementException();
        }
        return output.charAt(index);
    }
}
