import java.util.ArrayList;
import java.util.Comparator;
import java.util.List;
import java.util.function.Predicate;

/** The state of a SlowBouncer, with its rules as the document tells them. */
final class SlowWorld {
    static final class Riddle {
        String vegetable;
        int warp;
        int asked;
        int solved;
    }

    static final class Guest {
        String name;
        int level;
        int failures;
        int waitUntil;
        List<Integer> waits = new ArrayList<>();
        Riddle riddle;
        Integer expires;
        Door door;
        int right;
        int wrong;

        void forgive() {
            failures = 0;
            waitUntil = 0;
            waits.clear();
        }
    }

    static final class Door {
        String name;
        int opens;
        int closes;
        int room;
    }

    final List<Riddle> riddles = new ArrayList<>();
    final List<Guest> guests = new ArrayList<>();
    final List<Door> doors = new ArrayList<>();
    int base;
    int tokenMinutes;
    int minute;
    int shownOut;

    void addRiddle(String vegetable, int warp) {
        Riddle riddle = new Riddle();
        riddle.vegetable = vegetable;
        riddle.warp = warp;
        riddles.add(riddle);
    }

    void addGuest(String name) {
        Guest guest = new Guest();
        guest.name = name;
        guests.add(guest);
    }

    void addDoor(String name, int opens, int closes, int room) {
        Door door = new Door();
        door.name = name;
        door.opens = opens;
        door.closes = closes;
        door.room = room;
        doors.add(door);
    }

    SlowWorld copy() {
        SlowWorld copy = new SlowWorld();
        copy.base = base;
        copy.tokenMinutes = tokenMinutes;
        copy.minute = minute;
        copy.shownOut = shownOut;
        for (Riddle riddle : riddles) {
            copy.addRiddle(riddle.vegetable, riddle.warp);
            copy.riddles.get(copy.riddles.size() - 1).asked = riddle.asked;
            copy.riddles.get(copy.riddles.size() - 1).solved = riddle.solved;
        }
        for (Door door : doors) {
            copy.addDoor(door.name, door.opens, door.closes, door.room);
        }
        for (Guest guest : guests) {
            copy.guests.add(copyOf(guest, copy));
        }
        return copy;
    }

    private Guest copyOf(Guest guest, SlowWorld copy) {
        Guest one = new Guest();
        one.name = guest.name;
        one.level = guest.level;
        one.failures = guest.failures;
        one.waitUntil = guest.waitUntil;
        one.waits = new ArrayList<>(guest.waits);
        one.riddle = guest.riddle == null ? null : copy.riddles.get(riddles.indexOf(guest.riddle));
        one.expires = guest.expires;
        one.door = guest.door == null ? null : copy.doors.get(doors.indexOf(guest.door));
        one.right = guest.right;
        one.wrong = guest.wrong;
        return one;
    }

    int hour() {
        return minute / 60 % 24;
    }

    int waitOf(int failures) {
        int wait = base;
        for (int failure = 1; failure < failures; failure++) {
            wait += wait;
        }
        return wait;
    }

    boolean waits(Guest guest) {
        return minute < guest.waitUntil;
    }

    boolean isOpen(Door door) {
        int hour = door.opens;
        do {
            if (hour == hour()) {
                return true;
            }
            hour = hour == 23 ? 0 : hour + 1;
        } while (hour != door.closes);
        return false;
    }

    int inside(Door door) {
        return (int) guests.stream().filter(guest -> guest.door == door).count();
    }

    int askRefusal(Guest guest) {
        boolean[] reasons = {guest.door != null, guest.failures == 10, waits(guest), guest.expires != null,
            guest.riddle != null, riddles.isEmpty()};
        return first(reasons);
    }

    int enterRefusal(Guest guest, Door door) {
        boolean[] reasons = {guest.door != null, guest.expires == null, !isOpen(door), inside(door) == door.room};
        return first(reasons);
    }

    private static int first(boolean[] reasons) {
        for (int reason = 0; reason < reasons.length; reason++) {
            if (reasons[reason]) {
                return reason + 1;
            }
        }
        return 0;
    }

    Comparator<Riddle> orderFor(Guest guest) {
        return Comparator.<Riddle>comparingInt(riddle -> Math.abs(riddle.warp - guest.level))
                .thenComparing(riddle -> riddle.asked).thenComparing(riddles::indexOf);
    }

    void ask(Guest guest) {
        guest.riddle = riddles.stream().min(orderFor(guest)).orElseThrow();
        guest.riddle.asked++;
    }

    boolean answer(Guest guest, String word) {
        boolean isRight = guest.riddle.vegetable.equals(word);
        if (isRight) {
            guest.riddle.solved++;
            guest.right++;
            guest.level = Math.min(9, guest.level + 1);
            guest.failures = 0;
            guest.waits.clear();
            guest.expires = minute + tokenMinutes;
        } else {
            guest.wrong++;
            guest.failures++;
            guest.waits.add(waitOf(guest.failures));
            guest.waitUntil = minute + waitOf(guest.failures);
        }
        guest.riddle = null;
        return isRight;
    }

    void enter(Guest guest, Door door) {
        guest.door = door;
        guest.expires = null;
    }

    void setHours(Door door, int opens, int closes) {
        door.opens = opens;
        door.closes = closes;
        showOut();
    }

    private void showOut() {
        for (Guest guest : guests) {
            if (guest.door != null && !isOpen(guest.door)) {
                guest.door = null;
                shownOut++;
            }
        }
    }

    /** Answers the number of tokens that expired. */
    int passOne() {
        minute++;
        int expired = 0;
        for (Guest guest : guests) {
            if (guest.expires != null && guest.expires == minute) {
                guest.expires = null;
                expired++;
            }
        }
        showOut();
        return expired;
    }

    int until(int most, Predicate<SlowWorld> isSo) {
        SlowWorld later = copy();
        for (int minutes = 0; minutes <= most; minutes++) {
            if (isSo.test(later)) {
                return minutes;
            }
            later.passOne();
        }
        return -1;
    }
}
