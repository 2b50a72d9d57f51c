import java.math.BigInteger;
import java.util.ArrayList;
import java.util.List;
import java.util.Map;
import java.util.regex.Matcher;
import java.util.regex.Pattern;

/**
 * A setup text, read by the forms of its statements. A form has a sign for each token behind the first word:
 * V new vegetable, N new name, v g d known vegetable, guest, door, A any word, ; semicolon, and numbers:
 * B base, M token minutes, W warp, H hour, R room, P minutes.
 */
final class SlowText {
    private static final Map<String, String> FORMS = Map.ofEntries(Map.entry("bouncer", "BM;"),
            Map.entry("riddle", "VW;"), Map.entry("guest", "N;"), Map.entry("door", "NHHR;"), Map.entry("ask", "g;"),
            Map.entry("answer", "gA;"), Map.entry("enter", "gd;"), Map.entry("leave", "g;"),
            Map.entry("forgive", "g;"), Map.entry("warp", "vW;"), Map.entry("hours", "dHH;"), Map.entry("pass", "P;"));
    private static final Map<Character, int[]> RANGES = Map.of('B', new int[] {1, 30}, 'M', new int[] {1, 999},
            'W', new int[] {0, 9}, 'H', new int[] {0, 23}, 'R', new int[] {1, 9}, 'P', new int[] {0, 999});

    final SlowWorld world = new SlowWorld();
    int errorCode = 0;
    int errorOffset = -1;

    SlowText(String text) {
        Matcher tokens = Pattern.compile("[a-z]+|[0-9]+|[^ \n]").matcher(text);
        String verb = null;
        List<String> parts = new ArrayList<>();
        boolean isFirst = true;
        while (tokens.find()) {
            String token = tokens.group();
            int code = verb == null ? verbError(token, isFirst) : partError(verb, parts, token);
            if (code != 0) {
                errorCode = code;
                errorOffset = tokens.start();
                return;
            }
            isFirst = false;
            if (verb == null) {
                verb = token;
                parts.clear();
            } else if (token.equals(";")) {
                carryOut(verb, parts);
                verb = null;
            } else {
                parts.add(token);
            }
        }
        if (isFirst || verb != null) {
            errorCode = 1;
            errorOffset = text.length();
        }
    }

    private int verbError(String token, boolean isFirst) {
        if (!FORMS.containsKey(token) || token.equals("bouncer") != isFirst) {
            return 1;
        }
        boolean isFull = token.equals("riddle") && world.riddles.size() == 10
                || token.equals("guest") && world.guests.size() == 8
                || token.equals("door") && world.doors.size() == 4;
        return isFull ? 5 : 0;
    }

    private int partError(String verb, List<String> parts, String token) {
        char sign = FORMS.get(verb).charAt(parts.size());
        if (sign == ';') {
            return !token.equals(";") ? 1 : isRefused(verb, parts) ? 6 : 0;
        }
        if (RANGES.containsKey(sign)) {
            return numberError(token, RANGES.get(sign));
        }
        if (!token.matches("[a-z]+")) {
            return 1;
        }
        switch (sign) {
            case 'V':
                return token.length() > 8 ? 2 : riddle(token) != null ? 3 : 0;
            case 'N':
                return token.length() > 4 ? 2 : guest(token) != null || door(token) != null ? 3 : 0;
            case 'v':
                return riddle(token) == null ? 4 : 0;
            case 'g':
                return guest(token) == null ? 4 : 0;
            case 'd':
                return door(token) == null ? 4 : 0;
            default:
                return 0;
        }
    }

    private static int numberError(String token, int[] range) {
        if (!token.matches("[0-9]+")) {
            return 1;
        }
        BigInteger number = new BigInteger(token);
        boolean isTooSmall = number.compareTo(BigInteger.valueOf(range[0])) < 0;
        return isTooSmall || number.compareTo(BigInteger.valueOf(range[1])) > 0 ? 2 : 0;
    }

    private boolean isRefused(String verb, List<String> parts) {
        switch (verb) {
            case "ask":
                return world.askRefusal(guest(parts.get(0))) != 0;
            case "answer":
                return guest(parts.get(0)).riddle == null;
            case "enter":
                return world.enterRefusal(guest(parts.get(0)), door(parts.get(1))) != 0;
            case "leave":
                return guest(parts.get(0)).door == null;
            default:
                return false;
        }
    }

    private void carryOut(String verb, List<String> parts) {
        String name = parts.get(0);
        switch (verb) {
            case "bouncer" -> {
                world.base = number(parts, 0);
                world.tokenMinutes = number(parts, 1);
            }
            case "riddle" -> world.addRiddle(name, number(parts, 1));
            case "guest" -> world.addGuest(name);
            case "door" -> world.addDoor(name, number(parts, 1), number(parts, 2), number(parts, 3));
            case "ask" -> world.ask(guest(name));
            case "answer" -> world.answer(guest(name), parts.get(1));
            case "enter" -> world.enter(guest(name), door(parts.get(1)));
            case "leave" -> guest(name).door = null;
            case "forgive" -> guest(name).forgive();
            case "warp" -> riddle(name).warp = number(parts, 1);
            case "hours" -> world.setHours(door(name), number(parts, 1), number(parts, 2));
            default -> {
                for (int minute = 0; minute < number(parts, 0); minute++) {
                    world.passOne();
                }
            }
        }
    }

    private static int number(List<String> parts, int index) {
        return new BigInteger(parts.get(index)).intValue();
    }

    private SlowWorld.Riddle riddle(String vegetable) {
        return world.riddles.stream().filter(one -> one.vegetable.equals(vegetable)).findFirst().orElse(null);
    }

    private SlowWorld.Guest guest(String name) {
        return world.guests.stream().filter(one -> one.name.equals(name)).findFirst().orElse(null);
    }

    private SlowWorld.Door door(String name) {
        return world.doors.stream().filter(one -> one.name.equals(name)).findFirst().orElse(null);
    }
}
