import java.math.BigInteger;
import java.util.Arrays;
import java.util.List;
import java.util.function.Consumer;
import java.util.function.ToLongFunction;

/**
 * Each sentence of the document that names a boundary case (too small, too large, empty, full, round again, refused)
 * stands here with a test of its own; the figure before it is the promise, T the Terms, R the refusals, H the head.
 */
public final class EdgesTest {
    private static final int MIN = Integer.MIN_VALUE, MAX = Integer.MAX_VALUE;
    private static final int[] NO_HOUSES_OF_THREE = {-1, 3, 5, 6, 32, 33, -32, MIN, MAX};
    private static final String SIX = "H0123H1234H2345H3456H0567H1678";
    private static final String THREE = "H0123H1456H2789";

    private static String sentence = "";
    private static int asked = 0;
    private static int edges = 0;
    private static int wrong = 0;

    private static void edge(String told, Runnable test) {
        sentence = told;
        int before = asked;
        test.run();
        edges++;
        if (asked == before) {
            fault("nothing is asked");
        }
    }

    private static void fault(String told) {
        wrong++;
        System.out.println("(" + sentence + ") " + told);
    }

    private static void due(String call, long got, long want) {
        asked++;
        if (got != want) {
            fault(call + " answered " + got + ", due is " + want);
        }
    }

    private static void tell(KeyholeNews x, String text) {
        x.wipe();
        for (int i = 0; i < text.length(); i++) {
            x.write(text.charAt(i));
        }
    }

    private static KeyholeNews told(String text) {
        KeyholeNews x = new KeyholeNews();
        tell(x, text);
        return x;
    }

    private static KeyholeNews on(String text) {
        KeyholeNews x = told(text);
        x.street();
        return x;
    }

    private static KeyholeNews on(String text, Consumer<KeyholeNews> then) {
        KeyholeNews x = on(text);
        then.accept(x);
        return x;
    }

    private static void pauses(KeyholeNews x, int times) {
        for (int i = 0; i < times; i++) {
            x.pause();
        }
    }

    private static void walks(KeyholeNews x, int times) {
        for (int i = 0; i < times; i++) {
            x.walk(1);
        }
    }

    private static void looks(KeyholeNews x, int... joys) {
        for (int joy : joys) {
            due("look()", x.look(), joy);
        }
    }

    // ---- what is refused changes nothing

    /** An object in which all that can be filled is full, and all that can be changed is changed. */
    private static KeyholeNews full() {
        KeyholeNews x = on("N9" + SIX);
        for (int i = 0; i < 6; i++) {
            x.see(i, i, i, i);
        }
        x.seed(99);
        x.look();
        x.keep(0);
        walks(x, 2);
        x.keep(1);
        for (int i = 0; i < 4; i++) {
            x.look();
            x.lamp(i);
            x.key(5 - i);
            x.walk(i % 2);
        }
        tell(x, "N9" + SIX + "0123456789012345");
        return x;
    }

    /** A street of one house at its beginning, its text whole. */
    private static KeyholeNews small() {
        return on("N0H2109");
    }

    private static String stand(KeyholeNews x) {
        StringBuilder told = new StringBuilder();
        for (int what = 1; what <= 7; what++) {
            told.append(x.about(what)).append(' ');
        }
        for (int house = 0; house < 6; house++) {
            told.append(x.house(house, 4)).append(' ');
        }
        return told.append('/').toString();
    }

    /** All that can be asked of an object. It is not to be used behind that. */
    private static String whole(KeyholeNews x) {
        StringBuilder told = new StringBuilder(stand(x));
        told.append(x.about(0)).append(' ').append(x.about(8)).append(' ').append(x.about(9)).append(' ');
        for (int house = 0; house < 6; house++) {
            told.append(x.shapes(house)).append(' ');
            for (int what = 0; what <= 3; what++) {
                told.append(x.house(house, what));
            }
        }
        told.append(x.fault()).append(' ').append(x.seed(0)).append(' ').append(x.unsee()).append(' ');
        for (int left = x.about(7); left > 0; left--) {
            told.append(x.undo()).append(':').append(stand(x));
        }
        for (int slot = 0; slot <= 1; slot++) {
            told.append(x.again(slot)).append(':').append(stand(x));
        }
        told.append(x.street()).append(':').append(stand(x)).append(x.wipe());
        return told.toString();
    }

    private static void unchanged(String call, KeyholeNews x, KeyholeNews like, ToLongFunction<KeyholeNews> made) {
        made.applyAsLong(x);
        String is = whole(x);
        String was = whole(like);
        asked++;
        if (!is.equals(was)) {
            fault(call + " changed " + was + " to " + is);
        }
    }

    private static void changesNothing(String call, ToLongFunction<KeyholeNews> made) {
        unchanged(call, new KeyholeNews(), new KeyholeNews(), made);
        unchanged(call, small(), small(), made);
        unchanged(call, full(), full(), made);
    }

    /** The answer is due of a new object, of a small and of a full one, and none of them is changed. */
    private static void refused(String call, long want, ToLongFunction<KeyholeNews> made) {
        due(call + " of a new one", made.applyAsLong(new KeyholeNews()), want);
        due(call + " of a small one", made.applyAsLong(small()), want);
        due(call + " of a full one", made.applyAsLong(full()), want);
        changesNothing(call, made);
    }

    // ---- the head and the Terms

    private static void head() {
        edge("H: HOUSES are 0, 1, .. in a row (6 at most): six", () -> {
            KeyholeNews x = on("N9" + SIX);
            due("about(0)", x.about(0), 6);
            due("house(5, 3)", x.house(5, 3), 8);
            due("house(6, 3)", x.house(6, 3), -1);
            walks(x, 4);
            due("walk(1)", x.walk(1), 5);
            due("walk(1) behind the sixth", x.walk(1), -3);
        });
        edge("H: HOUSES are 0, 1, .. in a row (6 at most): no seventh", () -> {
            KeyholeNews x = told("N9" + SIX + "H0000");
            due("fault()", x.fault(), 32);
            due("street()", x.street(), -3);
            due("about(0)", x.about(0), 0);
        });
        edge("H: at most 512 calls: the 512th still answers", () -> {
            KeyholeNews x = new KeyholeNews();
            pauses(x, 510);
            due("the 511th call", x.pause(), 511);
            due("the 512th call", x.about(3), 511);
        });
        edge("H: at most 512 calls: a look, an undo at the end of them", () -> {
            KeyholeNews x = on("N1H0123");
            // a wipe, 7 bytes and the street are 9 calls, these 501 more
            pauses(x, 501);
            due("look() in the hour 501", x.look(), 1);
            due("undo()", x.undo(), 13);
        });
    }

    private static void hours() {
        edge("T: HOURS go on: behind 99 too", () -> {
            KeyholeNews x = on("N2H0123");
            pauses(x, 100);
            due("about(3)", x.about(3), 100);
            due("look() in the hour 100", x.look(), 2);
            due("about(3)", x.about(3), 101);
            due("best(1, false) in the hour 101", x.best(1, false), 3);
        });
        edge("T: the NEWS of a HOUSE goes round by three", () -> {
            KeyholeNews x = on("N9H0123");
            int[] hours = {0, 1, 2, 3, 4, 5, 6, 97, 98, 99};
            int[] sights = {1, 2, 3, 1, 2, 3, 1, 2, 3, 1};
            for (int i = 0; i < hours.length; i++) {
                due("sight(0, " + hours[i] + ")", x.sight(0, hours[i]), sights[i]);
            }
        });
        edge("T: HOURS of which 0, 1, 2 is left by 3: a, b, c", () -> {
            KeyholeNews x = on("N9H0479");
            due("house(0, 1), a", x.house(0, 1), 4);
            due("house(0, 2), b", x.house(0, 2), 7);
            due("house(0, 3), c", x.house(0, 3), 9);
            looks(x, 4, 7, 9);
        });
        edge("T: NEWS of HOURS alike by 3 is READ once", () -> {
            KeyholeNews x = on("N9H0479");
            looks(x, 4);
            pauses(x, 2);
            looks(x, 0, 7);
            due("house(0, 4)", x.house(0, 4), 3);
        });
        edge("T: NEWS of HOURS that are not alike by 3 is not READ", () -> {
            KeyholeNews x = on("N9H0777");
            pauses(x, 2);
            looks(x, 7);
            due("house(0, 4)", x.house(0, 4), 4);
            looks(x, 7, 7, 0);
            due("house(0, 4)", x.house(0, 4), 7);
        });
    }

    private static void faultIs(String text, int want) {
        due("fault() of " + text, told(text).fault(), want);
    }

    private static void texts() {
        edge("T: THE TEXT is bytes (48 at most)", () -> {
            KeyholeNews x = told("N9" + SIX + "0123456789012345");
            due("about(9)", x.about(9), 48);
            due("write(48)", x.write(48), -4);
            due("about(9)", x.about(9), 48);
        });
        edge("T: N: another first byte is a FAULT", () -> {
            for (int letter : new int[] {0, 32, 48, 72, 77, 79, 110, 127, 128, 206, 255}) {
                faultIs("" + (char) letter, 0);
                faultIs((char) letter + "0", 0);
            }
            faultIs("N", 1);
        });
        edge("T: FARTHINGS (0 .. 9)", () -> {
            due("about(2) of N0", on("N0").about(2), 0);
            due("about(2) of N9", on("N9").about(2), 9);
            for (int letter : new int[] {0, 47, 58, 65, 72, 78, 176, 255}) {
                faultIs("N" + (char) letter, 1);
            }
        });
        edge("T: then HOUSES, none or more", () -> {
            for (int houses = 0; houses <= 6; houses++) {
                String text = "N5" + SIX.substring(0, 5 * houses);
                faultIs(text, -9);
                due("street() of " + text, told(text).street(), houses);
            }
        });
        edge("T: HOUSES are numbered as they are told", () -> {
            KeyholeNews x = on("N5" + SIX);
            for (int house = 0; house < 6; house++) {
                due("house(" + house + ", 1)", x.house(house, 1), house + 1);
            }
        });
        edge("T: H: another byte where a HOUSE begins is a FAULT", () -> {
            for (int letter : new int[] {0, 48, 71, 73, 78, 104, 200, 255}) {
                faultIs("N0" + (char) letter, 2);
                faultIs("N0H0000" + (char) letter + "0000", 7);
            }
        });
        edge("T: SHAPE s (0 .. 3)", () -> {
            for (int shape = 0; shape <= 3; shape++) {
                faultIs("N0H" + shape + "000", -9);
                due("house(0, 0)", on("N0H" + shape + "000").house(0, 0), shape);
            }
            for (int letter : new int[] {0, 47, 52, 57, 72, 255}) {
                faultIs("N0H" + (char) letter + "000", 3);
            }
        });
        edge("T: NEWS is a, b, c (0 .. 9 each)", () -> {
            due("house(0, 1) of H0909", on("N0H0909").house(0, 1), 9);
            due("house(0, 2) of H0909", on("N0H0909").house(0, 2), 0);
            due("house(0, 3) of H0909", on("N0H0909").house(0, 3), 9);
            for (int part = 0; part < 3; part++) {
                for (int letter : new int[] {0, 47, 58, 72, 255}) {
                    String news = "000".substring(0, part) + (char) letter + "000".substring(part + 1);
                    faultIs("N0H0" + news, 4 + part);
                }
            }
        });
    }

    private static void faults() {
        edge("T: FAULT: the place of the first byte: of two the first", () -> {
            faultIs("NxHx", 1);
            faultIs("N0H7xyz", 3);
            faultIs("N0H00x0H9", 5);
        });
        edge("T: FAULT: whatever came behind it", () -> {
            KeyholeNews x = told("N0x");
            due("fault()", x.fault(), 2);
            for (int i = 0; i < 45; i++) {
                x.write("H0000".charAt(i % 5));
            }
            due("fault() of 48 bytes", x.fault(), 2);
        });
        edge("T: FAULT: its length set aside: 48 bytes are no fault by themselves", () -> {
            faultIs("N9" + SIX + "H000000000000000", 32);
            faultIs("N9" + SIX + "x", 32);
            faultIs("N9" + SIX + "\u0000", 32);
        });
        edge("T: FAULT: its length, if it is only not at its end", () -> {
            String text = "N9" + SIX;
            for (int length = 0; length <= text.length(); length++) {
                boolean ended = length >= 2 && (length - 2) % 5 == 0;
                faultIs(text.substring(0, length), ended ? -9 : length);
            }
        });
        edge("T: FAULT: NONE: none: of the shortest, of the longest", () -> {
            faultIs("N0", -9);
            faultIs("N9" + SIX, -9);
        });
        edge("T: FAULT of the empty TEXT is its length", () -> faultIs("", 0));
    }

    private static void anew() {
        edge("T: At first there are no HOUSES, no FARTHINGS", () -> {
            KeyholeNews x = new KeyholeNews();
            due("about(0)", x.about(0), 0);
            due("about(2)", x.about(2), 0);
            due("look()", x.look(), -3);
        });
        edge("T: THE STREET made anew: READER at HOUSE 0, HOUR 0, all LIT, no key, no JOY, nothing READ", () -> {
            KeyholeNews x = full();
            tell(x, "N4" + SIX);
            x.street();
            int[] want = {6, 0, 4, 0, 0, 63, 0, 0, 6, 32};
            for (int what = 0; what <= 9; what++) {
                due("about(" + what + ")", x.about(what), want[what]);
            }
            for (int house = 0; house < 6; house++) {
                due("house(" + house + ", 4)", x.house(house, 4), 0);
            }
        });
        edge("T: THE STREET made anew with fewer HOUSES: the READER does not stay behind the last", () -> {
            KeyholeNews x = on("N4" + SIX, y -> walks(y, 5));
            tell(x, "N4H0123");
            x.street();
            due("about(1)", x.about(1), 0);
            due("about(5)", x.about(5), 1);
            due("house(1, 0)", x.house(1, 0), -1);
            due("look()", x.look(), 1);
        });
        edge("T: THE STREET made anew without HOUSES", () -> {
            KeyholeNews x = full();
            tell(x, "N7");
            due("street()", x.street(), 0);
            int[] want = {0, 0, 7, 0, 0, 0, 0, 0, 6, 2};
            for (int what = 0; what <= 9; what++) {
                due("about(" + what + ")", x.about(what), want[what]);
            }
        });
    }

    private static void sights() {
        edge("T: SIGHT: 0, if its lamp is not LIT", () -> {
            KeyholeNews x = on("N9" + THREE, y -> y.lamp(1));
            due("sight(1, 0)", x.sight(1, 0), 0);
            due("sight(0, 0)", x.sight(0, 0), 1);
            due("sight(2, 0)", x.sight(2, 0), 8);
        });
        edge("T: SIGHT: 0, if the key is in", () -> {
            KeyholeNews x = on("N9" + THREE, y -> y.key(1));
            due("sight(1, 0)", x.sight(1, 0), 0);
            due("sight(0, 0)", x.sight(0, 0), 1);
            due("sight(2, 0)", x.sight(2, 0), 8);
        });
        edge("T: SIGHT: 0, if its lamp is not LIT, or the key is in: both, then one of them", () -> {
            KeyholeNews x = on("N9H2789");
            x.lamp(0);
            x.key(0);
            due("sight(0, 0), both", x.sight(0, 0), 0);
            x.lamp(0);
            due("sight(0, 0), the key", x.sight(0, 0), 0);
            x.key(0);
            due("sight(0, 0), neither", x.sight(0, 0), 8);
        });
        edge("T: SIGHT through a ROUND one is the NEWS", () -> {
            for (int news = 0; news <= 9; news++) {
                due("sight(0, 0) of " + news, on("N0H0" + news + "00").sight(0, 0), news);
            }
        });
        edge("T: Through a SLIT: half of it (cut)", () -> {
            int[] want = {0, 0, 1, 1, 2, 2, 3, 3, 4, 4};
            for (int news = 0; news <= 9; news++) {
                due("sight(0, 0) of " + news, on("N0H1" + news + "00").sight(0, 0), want[news]);
            }
        });
        edge("T: a STAR: 1 more, if it is any", () -> {
            int[] want = {0, 2, 3, 4, 5, 6, 7, 8, 9, 10};
            for (int news = 0; news <= 9; news++) {
                due("sight(0, 0) of " + news, on("N0H2" + news + "00").sight(0, 0), want[news]);
            }
        });
        edge("T: a LOW one: 0 in each odd HOUR", () -> {
            KeyholeNews x = on("N9H3456");
            int[] want = {4, 0, 6, 0, 5, 0, 4, 0, 6, 0};
            for (int hour = 0; hour < want.length; hour++) {
                due("sight(0, " + hour + ")", x.sight(0, hour), want[hour]);
            }
            due("sight(0, 98)", x.sight(0, 98), 6);
            due("sight(0, 99)", x.sight(0, 99), 0);
        });
    }

    // ---- the street: promises 1 to 8

    private static void theStreet() {
        edge("1: A new object: No houses", () -> {
            KeyholeNews x = new KeyholeNews();
            for (int what = 0; what <= 9; what++) {
                due("about(" + what + ")", x.about(what), 0);
            }
            due("house(0, 0)", x.house(0, 0), -1);
        });
        edge("1: two objects have nothing of one another", () -> {
            KeyholeNews x = full();
            due("about(0) of another", new KeyholeNews().about(0), 0);
            due("again(0) of another", new KeyholeNews().again(0), -3);
            due("about(0)", x.about(0), 6);
        });
        edge("2: A byte (0 .. 255): the least, the most", () -> {
            KeyholeNews x = new KeyholeNews();
            due("write(0)", x.write(0), 1);
            due("write(255)", x.write(255), 2);
        });
        edge("2: A byte (0 .. 255): BAD", () -> {
            for (int letter : new int[] {-1, 256, -256, 334, MIN, MAX}) {
                refused("write(" + letter + ")", -2, x -> x.write(letter));
            }
        });
        edge("2: FULL: there are 48", () -> {
            KeyholeNews x = new KeyholeNews();
            for (int i = 1; i <= 48; i++) {
                due("write(78)", x.write(78), i);
            }
            due("the 49th", x.write(78), -4);
            due("once more", x.write(0), -4);
        });
        edge("2: FULL changes nothing", () -> changesNothingOfFull("write(78)", x -> x.write(78)));
        edge("2: BAD is told before FULL", () -> due("write(256)", full().write(256), -2));
        edge("2: behind a wipe there is room again", () -> {
            KeyholeNews x = full();
            x.wipe();
            due("write(78)", x.write(78), 1);
        });
        edge("3: how long it was: the empty TEXT", () -> {
            KeyholeNews x = new KeyholeNews();
            due("wipe()", x.wipe(), 0);
            due("wipe()", x.wipe(), 0);
        });
        edge("3: how long it was: the full TEXT", () -> {
            KeyholeNews x = full();
            due("wipe()", x.wipe(), 48);
            due("about(9)", x.about(9), 0);
            due("fault()", x.fault(), 0);
            due("wipe()", x.wipe(), 0);
        });
        edge("3: THE TEXT is empty, THE STREET stays", () -> {
            KeyholeNews x = on("N4" + THREE);
            x.wipe();
            due("about(0)", x.about(0), 3);
            due("look()", x.look(), 1);
        });
        edge("4: FAULT; NONE", () -> {
            KeyholeNews x = new KeyholeNews();
            int[] want = {0, 1, -9, 3, 4, 5, 6, -9, 7};
            for (int length = 0; length < want.length; length++) {
                due("fault() of " + length + " bytes", x.fault(), want[length]);
                x.write("N0H0000x".charAt(Math.min(length, 7)));
            }
        });
        streetAnew();
        questions();
    }

    private static void changesNothingOfFull(String call, ToLongFunction<KeyholeNews> made) {
        unchanged(call, full(), full(), made);
    }

    private static void streetAnew() {
        edge("5: LATE: a FAULT: the empty TEXT, one that is not at its end, one with a wrong byte", () -> {
            due("street() of nothing", new KeyholeNews().street(), -3);
            due("street() of N", told("N").street(), -3);
            due("street() of N0H012", told("N0H012").street(), -3);
            due("street() of N0H4123", told("N0H4123").street(), -3);
            due("street() of seven", told("N0" + SIX + "H0000").street(), -3);
        });
        edge("5: LATE changes nothing", () -> {
            unchanged("street()", new KeyholeNews(), new KeyholeNews(), KeyholeNews::street);
            changesNothingOfFull("street()", KeyholeNews::street);
        });
        edge("5: how many HOUSES: none", () -> due("street()", told("N9").street(), 0));
        edge("5: how many HOUSES: six", () -> due("street()", told("N9" + SIX).street(), 6));
        edge("5: THE TEXT itself stays", () -> {
            KeyholeNews x = on("N4" + THREE);
            due("about(9)", x.about(9), 17);
            due("fault()", x.fault(), -9);
            due("write(72)", x.write(72), 18);
            due("fault()", x.fault(), 18);
            due("street()", x.street(), -3);
            due("about(0)", x.about(0), 3);
        });
        edge("5: THE TEXT itself stays: it is THE STREET once more", () -> {
            KeyholeNews x = on("N4" + THREE, y -> y.look());
            due("street()", x.street(), 3);
            due("about(2)", x.about(2), 4);
            due("about(4)", x.about(4), 0);
            due("look()", x.look(), 1);
        });
        edge("5: no ACTS", () -> {
            KeyholeNews x = on("N4" + THREE, y -> pauses(y, 20));
            x.street();
            due("about(7)", x.about(7), 0);
            due("undo()", x.undo(), -3);
        });
        edge("5: what was kept is gone", () -> {
            KeyholeNews x = on("N4" + THREE);
            x.keep(0);
            x.keep(1);
            x.street();
            due("again(0)", x.again(0), -3);
            due("again(1)", x.again(1), -3);
            due("keep(0)", x.keep(0), 0);
            due("again(0)", x.again(0), 0);
            due("again(1)", x.again(1), -3);
        });
        edge("5: SEEN, THE SEED stay", () -> {
            KeyholeNews x = on("N4" + THREE);
            x.see(2, 9, 0, 10);
            x.seed(-5);
            x.street();
            due("about(8)", x.about(8), 1);
            due("shapes(2)", x.shapes(2), 4);
            due("seed(0)", x.seed(0), -5);
        });
    }

    private static void questions() {
        edge("6: BAD", () -> {
            for (int what : new int[] {-1, 10, 16, MIN, MAX}) {
                refused("about(" + what + ")", -2, x -> x.about(what));
            }
        });
        edge("6: lamps that are LIT, keys that are in (bits): none, all six", () -> {
            KeyholeNews x = on("N4" + SIX);
            due("about(5)", x.about(5), 63);
            due("about(6)", x.about(6), 0);
            for (int house = 0; house < 6; house++) {
                x.lamp(house);
                x.key(house);
            }
            due("about(5)", x.about(5), 0);
            due("about(6)", x.about(6), 63);
        });
        edge("6: ACTS (7), SEEN (8), bytes of THE TEXT (9): none, full", () -> {
            KeyholeNews x = full();
            due("about(7)", x.about(7), 14);
            due("about(8)", x.about(8), 6);
            due("about(9)", x.about(9), 48);
            KeyholeNews y = new KeyholeNews();
            due("about(7)", y.about(7), 0);
            due("about(8)", y.about(8), 0);
            due("about(9)", y.about(9), 0);
        });
        edge("7: UNKNOWN", () -> {
            for (int house : NO_HOUSES_OF_THREE) {
                due("house(" + house + ", 0)", on("N4" + THREE).house(house, 0), -1);
            }
            refused("house(6, 0)", -1, x -> x.house(6, 0));
        });
        edge("7: BAD", () -> {
            for (int what : new int[] {-1, 5, MIN, MAX}) {
                due("house(2, " + what + ")", on("N4" + THREE).house(2, what), -2);
                changesNothingOfFull("house(2, " + what + ")", x -> x.house(2, what));
            }
        });
        edge("7: UNKNOWN is told before BAD", () -> due("house(3, 5)", on("N4" + THREE).house(3, 5), -1));
        edge("7: what was READ of it (bits of HOURS by 3): nothing, all", () -> {
            KeyholeNews x = on("N9H0123H0123");
            due("house(0, 4)", x.house(0, 4), 0);
            looks(x, 1, 2, 3);
            due("house(0, 4)", x.house(0, 4), 7);
            due("house(1, 4)", x.house(1, 4), 0);
        });
        edge("7: what was READ of it: of the first, of the last of six, not of those beside", () -> {
            KeyholeNews x = on("N9" + SIX, y -> looks(y, 1));
            walks(x, 5);
            looks(x, 3);
            int[] want = {1, 0, 0, 0, 0, 1};
            for (int house = 0; house < 6; house++) {
                due("house(" + house + ", 4)", x.house(house, 4), want[house]);
            }
            looks(x, 3);
            x.walk(0);
            x.look();
            due("house(5, 4)", x.house(5, 4), 3);
            due("house(4, 4)", x.house(4, 4), 1);
            due("house(3, 4)", x.house(3, 4), 0);
        });
        edge("8: UNKNOWN", () -> {
            for (int house : NO_HOUSES_OF_THREE) {
                due("sight(" + house + ", 0)", on("N4" + THREE).sight(house, 0), -1);
            }
            refused("sight(6, 0)", -1, x -> x.sight(6, 0));
        });
        edge("8: hour (0 .. 99): the first, the last", () -> {
            due("sight(0, 0)", on("N4" + THREE).sight(0, 0), 1);
            due("sight(0, 99)", on("N4" + THREE).sight(0, 99), 1);
            due("sight(2, 99)", on("N4" + THREE).sight(2, 99), 8);
        });
        edge("8: BAD: hour", () -> {
            for (int hour : new int[] {-1, -3, 100, MIN, MAX}) {
                due("sight(2, " + hour + ")", on("N4" + THREE).sight(2, hour), -2);
                changesNothingOfFull("sight(2, " + hour + ")", x -> x.sight(2, hour));
            }
        });
        edge("8: UNKNOWN is told before BAD", () -> due("sight(3, 100)", on("N4" + THREE).sight(3, 100), -1));
        edge("8: nothing is changed", () -> {
            changesNothing("fault()", KeyholeNews::fault);
            changesNothing("about(4)", x -> x.about(4));
            changesNothing("house(0, 4)", x -> x.house(0, 4));
            changesNothing("sight(0, 7)", x -> x.sight(0, 7));
        });
    }

    // ---- acts: promises 9 to 14

    private static void theActs() {
        edge("9: BAD: way (0, 1)", () -> {
            for (int way : new int[] {-1, 2, 3, MIN, MAX}) {
                refused("walk(" + way + ")", -2, x -> x.walk(way));
            }
        });
        edge("9: LATE: there is no HOUSE that way: before the first", () -> {
            KeyholeNews x = on("N4" + THREE);
            due("walk(0)", x.walk(0), -3);
            due("walk(1)", x.walk(1), 1);
            due("walk(0)", x.walk(0), 0);
            due("walk(0)", x.walk(0), -3);
        });
        edge("9: LATE: there is no HOUSE that way: behind the last", () -> {
            KeyholeNews x = on("N4" + THREE);
            due("walk(1)", x.walk(1), 1);
            due("walk(1)", x.walk(1), 2);
            due("walk(1)", x.walk(1), -3);
            due("about(1)", x.about(1), 2);
        });
        edge("9: LATE: there is no HOUSE that way: of one HOUSE, of none", () -> {
            for (int way = 0; way <= 1; way++) {
                int to = way;
                due("walk(" + way + ")", small().walk(way), -3);
                due("walk(" + way + ")", new KeyholeNews().walk(way), -3);
                unchanged("walk(" + way + ")", small(), small(), x -> x.walk(to));
                unchanged("walk(" + way + ")", new KeyholeNews(), new KeyholeNews(), x -> x.walk(to));
            }
        });
        edge("9: LATE changes nothing, at either end, when ACTS are full", () -> {
            unchanged("walk(0)", atTheFirst(), atTheFirst(), x -> x.walk(0));
            unchanged("walk(1)", atTheLast(), atTheLast(), x -> x.walk(1));
        });
        edge("9: BAD is told before LATE", () -> due("walk(2)", new KeyholeNews().walk(2), -2));
        edge("9: WALKED without a FARTHING: an HOUR later", () -> {
            KeyholeNews x = on("N0" + THREE);
            due("walk(1)", x.walk(1), 1);
            due("about(3)", x.about(3), 1);
            due("about(2)", x.about(2), 0);
        });
        edge("10: LATE: there are no HOUSES", () -> {
            due("look()", on("N9").look(), -3);
            due("look()", new KeyholeNews().look(), -3);
            unchanged("look()", on("N9"), on("N9"), KeyholeNews::look);
        });
        edge("10: LATE: no FARTHINGS: at first", () -> {
            due("look()", small().look(), -3);
            unchanged("look()", small(), small(), KeyholeNews::look);
        });
        edge("10: LATE changes nothing, when ACTS are full", () -> {
            due("look()", atTheLast().look(), -3);
            unchanged("look()", atTheLast(), atTheLast(), KeyholeNews::look);
        });
        edge("10: LATE: no FARTHINGS: behind the last one", () -> {
            KeyholeNews x = on("N1H0444");
            looks(x, 4);
            due("about(2)", x.about(2), 0);
            due("look()", x.look(), -3);
            due("about(3)", x.about(3), 1);
            due("about(4)", x.about(4), 4);
            due("house(0, 4)", x.house(0, 4), 1);
            due("about(7)", x.about(7), 1);
        });
        edge("10: nine FARTHINGS are nine looks, and the most JOY", () -> {
            KeyholeNews x = on("N9H2999H2999H2999");
            looks(x, 10, 10, 10);
            x.walk(1);
            looks(x, 10, 10, 10);
            x.walk(1);
            looks(x, 10, 10, 10);
            due("about(4)", x.about(4), 90);
            due("look()", x.look(), -3);
        });
        edge("10: no JOY of NEWS that it did READ already, but a FARTHING and an HOUR", () -> {
            KeyholeNews x = on("N2H0444");
            looks(x, 4);
            pauses(x, 2);
            looks(x, 0);
            due("about(2)", x.about(2), 0);
            due("about(3)", x.about(3), 4);
            due("about(4)", x.about(4), 4);
        });
        edge("10: READ though nothing was to be seen: dark, a key in, low in an odd HOUR, no NEWS", () -> {
            KeyholeNews dark = on("N2H0444", x -> x.lamp(0));
            looks(dark, 0);
            due("house(0, 4)", dark.house(0, 4), 1);
            KeyholeNews locked = on("N2H0444", x -> x.key(0));
            looks(locked, 0);
            due("house(0, 4)", locked.house(0, 4), 1);
            KeyholeNews low = on("N2H3444", x -> x.pause());
            looks(low, 0);
            due("house(0, 4)", low.house(0, 4), 2);
            KeyholeNews empty = on("N2H2000");
            looks(empty, 0);
            due("house(0, 4)", empty.house(0, 4), 1);
        });
        lampsAndKeys();
        undone();
    }

    /** At the first of three, the ACTS full, one slot kept. */
    private static KeyholeNews atTheFirst() {
        KeyholeNews x = on("N1" + THREE, y -> y.look());
        x.lamp(1);
        x.key(2);
        x.keep(0);
        pauses(x, 15);
        return x;
    }

    /** At the last of three, the ACTS full, one slot kept. */
    private static KeyholeNews atTheLast() {
        KeyholeNews x = atTheFirst();
        walks(x, 2);
        return x;
    }

    private static void lampsAndKeys() {
        edge("11: WAITED: THE HOUR: without HOUSES, without FARTHINGS", () -> {
            due("pause()", new KeyholeNews().pause(), 1);
            due("pause()", small().pause(), 1);
        });
        edge("11: WAITED: when ACTS are full", () -> {
            KeyholeNews x = new KeyholeNews();
            pauses(x, 14);
            due("pause()", x.pause(), 15);
            due("about(7)", x.about(7), 14);
        });
        edge("12: UNKNOWN", () -> {
            for (int house : NO_HOUSES_OF_THREE) {
                due("lamp(" + house + ")", on("N4" + THREE).lamp(house), -1);
                unchanged("lamp(" + house + ")", on("N4" + THREE), on("N4" + THREE), x -> x.lamp(house));
            }
            refused("lamp(6)", -1, x -> x.lamp(6));
            due("lamp(0), no HOUSES", new KeyholeNews().lamp(0), -1);
        });
        edge("12: LAMP: a lamp is LIT, or not any more: of the first, of the last, and back", () -> {
            KeyholeNews x = on("N4" + SIX);
            due("lamp(0)", x.lamp(0), 0);
            due("lamp(5)", x.lamp(5), 0);
            due("about(5)", x.about(5), 30);
            due("lamp(5)", x.lamp(5), 1);
            due("lamp(0)", x.lamp(0), 1);
            due("about(5)", x.about(5), 63);
            due("about(3)", x.about(3), 0);
            due("about(7)", x.about(7), 4);
        });
        edge("13: UNKNOWN", () -> {
            for (int house : NO_HOUSES_OF_THREE) {
                due("key(" + house + ")", on("N4" + THREE).key(house), -1);
                unchanged("key(" + house + ")", on("N4" + THREE), on("N4" + THREE), x -> x.key(house));
            }
            refused("key(6)", -1, x -> x.key(6));
            due("key(0), no HOUSES", new KeyholeNews().key(0), -1);
        });
        edge("13: KEY: a key is in, or not any more: of the first, of the last, and back", () -> {
            KeyholeNews x = on("N4" + SIX);
            due("key(0)", x.key(0), 1);
            due("key(5)", x.key(5), 1);
            due("about(6)", x.about(6), 33);
            due("key(5)", x.key(5), 0);
            due("key(0)", x.key(0), 0);
            due("about(6)", x.about(6), 0);
            due("about(3)", x.about(3), 0);
            due("about(7)", x.about(7), 4);
        });
    }

    private static void undone() {
        edge("14: LATE: there is none: at first", () -> {
            due("undo()", new KeyholeNews().undo(), -3);
            due("undo()", small().undo(), -3);
            unchanged("undo()", small(), small(), KeyholeNews::undo);
            unchanged("undo()", new KeyholeNews(), new KeyholeNews(), KeyholeNews::undo);
        });
        edge("14: LATE: there is none: behind the first ACT", () -> {
            KeyholeNews x = on("N4" + THREE, y -> y.look());
            due("undo()", x.undo(), 0);
            due("undo()", x.undo(), -3);
            due("about(2)", x.about(2), 4);
        });
        edge("14: each of the ACTS is undone, with all that it changed", () -> {
            String fresh = whole(on("N4" + THREE));
            int act = 0;
            for (ToLongFunction<KeyholeNews> made : eachAct()) {
                KeyholeNews x = on("N4" + THREE);
                made.applyAsLong(x);
                due("undo() of act " + act, x.undo(), 0);
                due("all as it was before act " + act, whole(x).equals(fresh) ? 1 : 0, 1);
                act++;
            }
        });
        edge("14: what is refused is no ACT", () -> {
            KeyholeNews x = on("N0" + THREE, y -> y.pause());
            x.walk(0);
            x.walk(2);
            x.look();
            x.lamp(3);
            x.key(-1);
            due("about(7)", x.about(7), 1);
            due("undo()", x.undo(), 0);
            due("about(3)", x.about(3), 0);
        });
        edge("T: ACTS are a row (14 at most): the fourteenth is not too many", () -> {
            KeyholeNews x = new KeyholeNews();
            pauses(x, 14);
            due("about(7)", x.about(7), 14);
            undoAll(x, 14);
            due("about(3)", x.about(3), 0);
        });
        edge("T: when it is full, the first one is forgotten", () -> {
            KeyholeNews x = new KeyholeNews();
            pauses(x, 15);
            due("about(7)", x.about(7), 14);
            undoAll(x, 14);
            due("about(3)", x.about(3), 1);
        });
        edge("T: when it is full, the first one is forgotten: twice round", () -> {
            KeyholeNews x = on("N9H2999");
            x.look();
            for (int i = 0; i < 15; i++) {
                x.lamp(0);
                x.key(0);
            }
            due("about(7)", x.about(7), 14);
            undoAll(x, 14);
            due("about(3)", x.about(3), 1);
            due("about(4)", x.about(4), 10);
            due("about(5)", x.about(5), 1);
            due("about(6)", x.about(6), 0);
        });
        edge("T: the last one can be undone: then others come in its place", () -> {
            KeyholeNews x = new KeyholeNews();
            pauses(x, 17);
            due("undo()", x.undo(), 13);
            due("undo()", x.undo(), 12);
            pauses(x, 3);
            due("about(3)", x.about(3), 18);
            due("about(7)", x.about(7), 14);
            undoAll(x, 14);
            due("about(3)", x.about(3), 4);
        });
    }

    private static List<ToLongFunction<KeyholeNews>> eachAct() {
        return List.of(x -> x.walk(1), KeyholeNews::look, KeyholeNews::pause, x -> x.lamp(2), x -> x.key(2));
    }

    private static void undoAll(KeyholeNews x, int count) {
        for (int left = count - 1; left >= 0; left--) {
            due("undo()", x.undo(), left);
        }
        due("undo() of none", x.undo(), -3);
    }

    // ---- rows: promises 15 to 19

    private static void theRows() {
        bestEdges();
        fewestEdges();
        keysEdges();
        judgeEdges();
        shareEdges();
        edge("T: In what follows nothing is changed", () -> {
            changesNothing("best(6, true)", x -> x.best(6, true));
            changesNothing("best(6, false)", x -> x.best(6, false));
            changesNothing("fewest(99)", x -> x.fewest(99));
            changesNothing("keys(3, 0)", x -> x.keys(3, 0));
            changesNothing("judge(8, 33333333)", x -> x.judge(8, 33333333));
            changesNothing("judge(2, 12)", x -> x.judge(2, 12));
            changesNothing("share(0, true)", x -> x.share(0, true));
        });
    }

    private static void bestEdges() {
        edge("15: BAD: n", () -> {
            for (int n : new int[] {0, -1, 7, 32, MIN, MAX}) {
                refused("best(" + n + ", false)", -2, x -> x.best(n, false));
                refused("best(" + n + ", true)", -2, x -> x.best(n, true));
            }
        });
        edge("15: BEST for n (1 .. 6): one turn, six turns", () -> {
            KeyholeNews x = on("N9H2999H2999");
            due("best(1, false)", x.best(1, false), 10);
            due("best(1, true)", x.best(1, true), 12);
            due("best(6, false)", x.best(6, false), 50);
            due("best(6, true)", x.best(6, true), 1221222);
        });
        edge("15: of like ones the first: of those without any JOY", () -> {
            due("no HOUSES, 1", new KeyholeNews().best(1, true), 13);
            due("no HOUSES, 6", new KeyholeNews().best(6, true), 1333333);
            due("no HOUSES, how much", new KeyholeNews().best(6, false), 0);
            due("no FARTHINGS, one HOUSE", small().best(6, true), 1333333);
            due("no FARTHINGS, two HOUSES", on("N0H0999H0999").best(6, true), 1101010);
            due("no FARTHINGS, at the last of two", on("N0H0999H0999", x -> x.walk(1)).best(6, true), 1010101);
            due("one FARTHING, no NEWS", on("N1H0000").best(6, true), 1233333);
        });
        edge("15: a ROW can be, if each can when it comes: the last FARTHING", () -> {
            KeyholeNews x = on("N1H0129");
            due("best(3, false)", x.best(3, false), 9);
            due("best(3, true)", x.best(3, true), 1332);
            KeyholeNews y = on("N2H0129");
            due("best(3, false)", y.best(3, false), 11);
            due("best(3, true)", y.best(3, true), 1322);
        });
        edge("15: a ROW can be, if each can when it comes: the ends of the row of HOUSES", () -> {
            KeyholeNews x = on("N1H0000H0000H0001");
            due("best(3, true)", x.best(3, true), 1112);
            KeyholeNews y = on("N1H1000H0000H0000", z -> walks(z, 2));
            due("best(2, true)", y.best(2, true), 100);
            due("best(3, true)", y.best(3, true), 1001);
        });
        edge("15: by which JOY is most more: not what there was", () -> {
            KeyholeNews x = on("N9H0444", y -> y.look());
            due("best(1, false)", x.best(1, false), 4);
            due("best(3, false)", x.best(3, false), 8);
            due("best(3, true)", x.best(3, true), 1222);
            looks(x, 4, 4);
            due("best(6, false), all READ", x.best(6, false), 0);
        });
        edge("15: HOURS go round in it", () -> {
            KeyholeNews x = on("N1H0900", y -> pauses(y, 2));
            due("best(1, false)", x.best(1, false), 0);
            due("best(2, false)", x.best(2, false), 9);
            due("best(2, true)", x.best(2, true), 132);
            KeyholeNews low = on("N1H3090", y -> pauses(y, 5));
            due("best(5, false) before the hour 10", low.best(5, false), 0);
            due("best(6, false) to the hour 10", low.best(6, false), 9);
            due("best(6, true)", low.best(6, true), 1333332);
        });
    }

    private static void fewestEdges() {
        edge("16: BAD: j", () -> {
            for (int j : new int[] {0, -1, 100, MIN, MAX}) {
                refused("fewest(" + j + ")", -2, x -> x.fewest(j));
            }
        });
        edge("16: FEWEST for j (1 .. 99): the least, the most", () -> {
            due("fewest(1)", on("N9H2999H2999").fewest(1), 1);
            due("fewest(99)", on("N9H2999H2999").fewest(99), -9);
        });
        edge("16: by which JOY is j more, or more", () -> {
            KeyholeNews x = on("N9H2999H2999");
            due("fewest(9)", x.fewest(9), 1);
            due("fewest(10)", x.fewest(10), 1);
            due("fewest(11)", x.fewest(11), 2);
            x.look();
            due("fewest(20), not what there was", x.fewest(20), 2);
            due("fewest(21), not what there was", x.fewest(21), 4);
        });
        edge("16: the fewest TURNS (1 .. 6): six are enough, one JOY more is too much", () -> {
            KeyholeNews x = on("N9H2999H2999");
            due("fewest(40)", x.fewest(40), 5);
            due("fewest(41)", x.fewest(41), 6);
            due("fewest(50)", x.fewest(50), 6);
            due("fewest(51)", x.fewest(51), -9);
        });
        edge("16: the fewest TURNS (1 .. 6): a seventh is none", () -> {
            KeyholeNews x = on("N1H3090H0000", y -> y.walk(1));
            pauses(x, 2);
            due("fewest(9) in the hour 3, to the hour 4", x.fewest(9), 2);
            x.pause();
            due("fewest(9) in the hour 4, to the hour 10", x.fewest(9), -9);
            x.pause();
            due("fewest(9) in the hour 5, to the hour 10", x.fewest(9), 6);
        });
        edge("16: NONE: no HOUSES, no FARTHINGS, nothing to be seen", () -> {
            due("no HOUSES", on("N9").fewest(1), -9);
            due("no FARTHINGS", on("N0H0999").fewest(1), -9);
            due("no NEWS", on("N9H0000").fewest(1), -9);
            due("dark", on("N9H0999", x -> x.lamp(0)).fewest(1), -9);
        });
    }

    private static void keysEdges() {
        edge("17: BAD: n", () -> {
            for (int n : new int[] {0, -1, 4, 32, MIN, MAX}) {
                refused("keys(" + n + ", 5)", -2, x -> x.keys(n, 5));
            }
        });
        edge("17: BAD: j", () -> {
            for (int j : new int[] {-1, 100, MIN, MAX}) {
                refused("keys(2, " + j + ")", -2, x -> x.keys(2, j));
            }
        });
        edge("17: KEYS for n (1 .. 3) and j (0 .. 99): the least, the most", () -> {
            KeyholeNews x = on("N9H0999H0999H0999H0999H0999H0999");
            due("keys(1, 0)", x.keys(1, 0), 1);
            due("keys(2, 0)", x.keys(2, 0), 3);
            due("keys(3, 0)", x.keys(3, 0), 7);
            due("keys(1, 99)", x.keys(1, 99), 0);
            due("keys(3, 99)", x.keys(3, 99), 0);
            walks(x, 2);
            due("keys(1, 0) in the third", x.keys(1, 0), 4);
            due("keys(2, 0) in the third", x.keys(2, 0), 14);
            due("keys(3, 0) in the third", x.keys(3, 0), 31);
        });
        edge("17: the BEST for n is no more than j: just as much, one more", () -> {
            KeyholeNews x = on("N9H0444");
            due("keys(3, 12)", x.keys(3, 12), 0);
            due("keys(3, 11)", x.keys(3, 11), 1);
            due("keys(1, 4)", x.keys(1, 4), 0);
            due("keys(1, 3)", x.keys(1, 3), 1);
        });
        edge("17: the fewest HOUSES: none, if there is no more already", () -> {
            due("no HOUSES", new KeyholeNews().keys(3, 0), 0);
            due("no FARTHINGS", on("N0" + SIX).keys(3, 0), 0);
            due("all READ", on("N9H0444", x -> looks(x, 4, 4, 4)).keys(3, 0), 0);
        });
        edge("17: of those in which no key is", () -> {
            KeyholeNews x = on("N9H0999H0999H0999");
            x.key(1);
            due("keys(3, 0)", x.keys(3, 0), 5);
            x.key(0);
            x.key(2);
            due("keys(3, 0), all in", x.keys(3, 0), 0);
        });
        edge("17: of like ones the least", () -> {
            due("of two", on("N9H0500H0005").keys(3, 5), 1);
            due("the last alone", on("N9H0100H0000H0009").keys(3, 8), 4);
        });
    }

    private static void judgeEdges() {
        edge("18: BAD: n", () -> {
            for (int n : new int[] {0, -1, 9, 10, 32, MIN, MAX}) {
                refused("judge(" + n + ", 0)", -2, x -> x.judge(n, 0));
                refused("judge(" + n + ", 333333333)", -2, x -> x.judge(n, 333333333));
            }
        });
        edge("18: BAD: row (n figures 0 .. 3): another figure", () -> {
            for (int row : new int[] {4, 9, -1, -3, MIN, MAX}) {
                refused("judge(1, " + row + ")", -2, x -> x.judge(1, row));
            }
            for (int row : new int[] {40000000, 33333334, 33343333, 93333333, -33333333}) {
                refused("judge(8, " + row + ")", -2, x -> x.judge(8, row));
            }
        });
        edge("18: BAD: row (n figures 0 .. 3): too many figures", () -> {
            due("judge(1, 10)", full().judge(1, 10), -2);
            due("judge(2, 100)", full().judge(2, 100), -2);
            due("judge(8, 100000000)", full().judge(8, 100000000), -2);
            due("judge(8, 1333333333)", full().judge(8, 1333333333), -2);
        });
        edge("18: row (n figures 0 .. 3): noughts ahead are figures", () -> {
            KeyholeNews x = on("N4" + THREE, y -> walks(y, 2));
            due("judge(3, 2)", x.judge(3, 2), -9);
            due("judge(4, 2)", x.judge(4, 2), 2);
            due("judge(8, 0)", x.judge(8, 0), 2);
            due("judge(1, 0)", x.judge(1, 0), -9);
        });
        edge("18: n TURNS (1 .. 8): NONE of one, of eight", () -> {
            KeyholeNews x = on("N9H2999H2999");
            due("judge(1, 2)", x.judge(1, 2), -9);
            due("judge(1, 3)", x.judge(1, 3), -9);
            due("judge(8, 22212223)", x.judge(8, 22212223), -9);
            due("judge(8, 33333333), no HOUSES", new KeyholeNews().judge(8, 33333333), -9);
        });
        edge("18: the place of the first: the first place, the last", () -> {
            KeyholeNews x = on("N9H2999H2999");
            due("judge(1, 0)", x.judge(1, 0), 0);
            due("judge(8, 2222222)", x.judge(8, 2222222), 0);
            due("judge(8, 22212221)", x.judge(8, 22212221), 7);
            due("judge(8, 22212222)", x.judge(8, 22212222), 7);
            due("judge(8, 22221111), of two", x.judge(8, 22221111), 3);
        });
        edge("18: that can not be: no HOUSE that way, no HOUSES, no FARTHINGS", () -> {
            due("before the first", on("N4" + THREE).judge(1, 0), 0);
            due("behind the last", on("N4" + THREE).judge(3, 111), 2);
            due("no HOUSES, before", new KeyholeNews().judge(1, 0), 0);
            due("no HOUSES, behind", new KeyholeNews().judge(1, 1), 0);
            due("no HOUSES, a look", on("N9").judge(1, 2), 0);
            due("no FARTHINGS", small().judge(2, 32), 1);
            due("no FARTHINGS any more", on("N2H0999").judge(3, 222), 2);
        });
        edge("18: that is a look without any JOY", () -> {
            due("dark", on("N9H0999", x -> x.lamp(0)).judge(1, 2), 0);
            due("a key in", on("N9H0999", x -> x.key(0)).judge(1, 2), 0);
            due("READ already", on("N9H0999", x -> x.look()).judge(3, 222), 2);
            due("READ in the row itself", on("N9H0999").judge(4, 2222), 3);
            due("no NEWS", on("N9H0990").judge(3, 222), 2);
            due("half of 1", on("N9H1210").judge(2, 22), 1);
            due("a STAR without NEWS", on("N9H2100").judge(2, 22), 1);
            due("low in an odd HOUR", on("N9H3999").judge(2, 22), 1);
            due("low in an even HOUR", on("N9H3999").judge(3, 232), -9);
        });
    }

    private static void shareIs(KeyholeNews x, int house, int upper, int lower) {
        due("share(" + house + ", true)", x.share(house, true), upper);
        due("share(" + house + ", false)", x.share(house, false), lower);
    }

    private static void shareEdges() {
        edge("19: UNKNOWN", () -> {
            for (int house : NO_HOUSES_OF_THREE) {
                shareIs(on("N4" + THREE), house, -1, -1);
            }
            refused("share(6, true)", -1, x -> x.share(6, true));
            shareIs(new KeyholeNews(), 0, -1, -1);
        });
        edge("19: SHARE of the one HOUSE is the BEST for 3", () -> shareIs(on("N9H2999"), 0, 30, 1));
        edge("19: SHARE of nothing: no FARTHINGS, dark, a key in, no NEWS, all READ, too far", () -> {
            shareIs(small(), 0, 0, 1);
            shareIs(on("N9H0999", x -> x.lamp(0)), 0, 0, 1);
            shareIs(on("N9H0999", x -> x.key(0)), 0, 0, 1);
            shareIs(on("N9H0000"), 0, 0, 1);
            shareIs(on("N9H0999", x -> looks(x, 9, 9, 9)), 0, 0, 1);
            shareIs(on("N9" + SIX), 3, 0, 1);
        });
        edge("19: in each order as likely: of two, of six", () -> {
            shareIs(on("N9H2999H2999"), 0, 20, 1);
            shareIs(on("N9H2999H2999"), 1, 10, 1);
            KeyholeNews x = on("N1H0111H0111H0111H0111H0111H0111");
            for (int house = 0; house < 6; house++) {
                shareIs(x, house, house < 3 ? 1 : 0, house < 3 ? 3 : 1);
            }
        });
        edge("19: the BEST for 3, not for 2, not for 4", () -> {
            shareIs(on("N1H0000H0000H0009"), 2, 9, 1);
            shareIs(on("N1H0000H0000H0000H0999"), 3, 0, 1);
        });
    }

    // ---- shapes: promises 20 to 22

    private static void theShapes() {
        edge("20: UNKNOWN", () -> {
            for (int house : NO_HOUSES_OF_THREE) {
                due("see(" + house + ", 0, 0, 0)", on("N4" + THREE).see(house, 0, 0, 0), -1);
            }
            refused("see(6, 0, 0, 0)", -1, x -> x.see(6, 0, 0, 0));
            due("no HOUSES", new KeyholeNews().see(0, 0, 0, 0), -1);
        });
        edge("20: BAD: v (0 .. 9), t (0 .. 9), g (0 .. 10)", () -> {
            for (int[] no : new int[][] {{-1, 0, 0}, {10, 0, 0}, {0, -1, 0}, {0, 10, 0}, {0, 0, -1}, {0, 0, 11},
                {MIN, 0, 0}, {MAX, 0, 0}, {0, MIN, 0}, {0, MAX, 0}, {0, 0, MIN}, {0, 0, MAX}}) {
                due("see(0, " + no[0] + ", " + no[1] + ", " + no[2] + ")", small().see(0, no[0], no[1], no[2]), -2);
                unchanged("see, BAD", small(), small(), x -> x.see(0, no[0], no[1], no[2]));
            }
        });
        edge("20: v (0 .. 9), t (0 .. 9), g (0 .. 10): the least, the most", () -> {
            KeyholeNews x = small();
            due("see(0, 0, 0, 0)", x.see(0, 0, 0, 0), 1);
            due("see(0, 9, 9, 10)", x.see(0, 9, 9, 10), 2);
        });
        edge("20: 6 such at most, none at first: FULL: 6", () -> {
            KeyholeNews x = on("N4" + THREE);
            due("about(8)", x.about(8), 0);
            for (int i = 1; i <= 6; i++) {
                due("see(2, 9, 0, 10)", x.see(2, 9, 0, 10), i);
            }
            due("the seventh", x.see(2, 9, 0, 9), -4);
            due("about(8)", x.about(8), 6);
            due("shapes(2)", x.shapes(2), 4);
        });
        edge("20: FULL changes nothing", () -> changesNothingOfFull("see(0, 0, 0, 0)", x -> x.see(0, 0, 0, 0)));
        edge("20: UNKNOWN is told before BAD, BAD before FULL", () -> {
            due("see(6, 10, 0, 0)", full().see(6, 10, 0, 0), -1);
            due("see(6, 0, 0, 0)", full().see(6, 0, 0, 0), -1);
            due("see(0, 10, 0, 0)", full().see(0, 10, 0, 0), -2);
            due("see(0, 0, 0, 11)", full().see(0, 0, 0, 11), -2);
        });
        edge("20: it is no ACT", () -> {
            KeyholeNews x = on("N4" + THREE, y -> y.pause());
            x.see(0, 1, 0, 1);
            due("about(7)", x.about(7), 1);
            x.undo();
            due("about(8)", x.about(8), 1);
        });
        edge("21: how much there was: none, six", () -> {
            due("unsee()", new KeyholeNews().unsee(), 0);
            KeyholeNews x = full();
            due("unsee()", x.unsee(), 6);
            due("about(8)", x.about(8), 0);
            due("unsee()", x.unsee(), 0);
        });
        edge("21: behind it there is room for six again, and nothing of the old is SEEN", () -> {
            KeyholeNews x = on("N4" + THREE, y -> y.see(0, 9, 0, 10));
            x.unsee();
            due("shapes(0)", x.shapes(0), 15);
            for (int i = 1; i <= 6; i++) {
                due("see(1, 9, 0, 9)", x.see(1, 9, 0, 9), i);
            }
            due("the seventh", x.see(1, 9, 0, 9), -4);
            due("shapes(0)", x.shapes(0), 15);
            due("shapes(1)", x.shapes(1), 9);
        });
        edge("22: UNKNOWN", () -> {
            for (int house : NO_HOUSES_OF_THREE) {
                due("shapes(" + house + ")", on("N4" + THREE).shapes(house), -1);
            }
            refused("shapes(6)", -1, x -> x.shapes(6));
            due("no HOUSES", new KeyholeNews().shapes(0), -1);
        });
        shapesTold();
    }

    private static void shapesAre(int v, int t, int g, int want) {
        due("shapes(0) by " + v + ", " + t + ", " + g, on("N0H0000", x -> x.see(0, v, t, g)).shapes(0), want);
    }

    private static void shapesTold() {
        edge("22: all of them, if nothing is SEEN of it", () -> {
            KeyholeNews x = on("N4" + THREE, y -> y.see(1, 9, 0, 9));
            due("shapes(0)", x.shapes(0), 15);
            due("shapes(2)", x.shapes(2), 15);
        });
        edge("22: none of them, if there is none by which all is so", () -> {
            shapesAre(5, 0, 9, 0);
            shapesAre(0, 0, 10, 0);
            KeyholeNews x = on("N4" + THREE);
            x.see(0, 9, 0, 10);
            due("shapes(0)", x.shapes(0), 4);
            x.see(0, 9, 0, 9);
            due("shapes(0)", x.shapes(0), 0);
        });
        edge("22: what is half (cut), 1 more if any, 0 in an odd HOUR", () -> {
            shapesAre(0, 0, 0, 15);
            shapesAre(0, 9, 0, 15);
            shapesAre(1, 0, 0, 2);
            shapesAre(1, 1, 0, 10);
            shapesAre(1, 0, 1, 9);
            shapesAre(1, 1, 1, 1);
            shapesAre(1, 0, 2, 4);
            shapesAre(0, 0, 1, 0);
            shapesAre(9, 0, 4, 2);
            shapesAre(9, 0, 10, 4);
            shapesAre(9, 8, 9, 9);
            shapesAre(9, 9, 9, 1);
            shapesAre(9, 9, 0, 8);
        });
        edge("22: whatever the SHAPE, the lamp, the key is", () -> {
            KeyholeNews x = on("N4" + THREE, y -> y.see(2, 9, 0, 4));
            x.lamp(2);
            x.key(2);
            due("shapes(2)", x.shapes(2), 2);
        });
        edge("T: of HOUSES that there are not any more nothing is looked at", () -> {
            KeyholeNews x = on("N4" + THREE, y -> y.see(2, 9, 0, 10));
            x.see(0, 9, 0, 9);
            tell(x, "N4H0123");
            x.street();
            due("shapes(2)", x.shapes(2), -1);
            due("shapes(0)", x.shapes(0), 9);
            due("about(8)", x.about(8), 2);
            tell(x, "N4");
            x.street();
            due("shapes(0)", x.shapes(0), -1);
            due("unsee()", x.unsee(), 2);
        });
        edge("22: nothing is changed", () -> changesNothing("shapes(0)", x -> x.shapes(0)));
    }

    // ---- rests, chances: promises 23 to 26

    private static void restsAre(KeyholeNews x, int count, int first) {
        due("rests(0)", x.rests(0), count);
        due("rests(1)", x.rests(1), first);
    }

    private static void theRests() {
        edge("23: BAD", () -> {
            for (int what : new int[] {-1, 2, 3, MIN, MAX}) {
                refused("rests(" + what + ")", -2, x -> x.rests(what));
            }
        });
        edge("23: no HOUSES: none, NONE", () -> {
            restsAre(new KeyholeNews(), 0, -9);
            restsAre(on("N9"), 0, -9);
        });
        edge("23: one HOUSE: both bend to it", () -> {
            restsAre(on("N9H0900"), 1, 0);
            restsAre(on("N9H0000"), 1, 0);
        });
        edge("23: six HOUSES alike: all pairs of two, not both to one", () -> {
            restsAre(on("N9H0444H0444H0444H0444H0444H0444"), 30, 1);
        });
        edge("23: six HOUSES, nothing to be seen: all pairs", () -> {
            restsAre(on("N9H0000H0000H0000H0000H0000H0000"), 36, 0);
        });
        edge("23: each has half of that (cut): of 1 nothing, of 2 one", () -> {
            restsAre(on("N9H0000H0000H0000H0000H0000H0100"), 11, 5);
            restsAre(on("N9H0000H0000H0000H0000H0000H0200"), 1, 55);
            restsAre(on("N9H0300H0100"), 3, 0);
            restsAre(on("N9H0300H0200"), 2, 1);
        });
        edge("23: neither has more: as much is no more", () -> restsAre(on("N9H0400H0200"), 3, 0));
        edge("23: SIGHT of it now (whatever was READ), without a FARTHING", () -> {
            KeyholeNews x = on("N1H0400H0200", y -> looks(y, 4));
            restsAre(x, 4, 0);
            pauses(x, 2);
            restsAre(x, 3, 0);
            pauses(x, 99);
            restsAre(x, 3, 0);
            x.key(0);
            restsAre(x, 1, 11);
        });
        edge("23: nothing is changed", () -> {
            changesNothing("rests(0)", x -> x.rests(0));
            changesNothing("rests(1)", x -> x.rests(1));
        });
        theChances();
        theSeed();
        theRounds();
    }

    private static void chanceIs(KeyholeNews x, int n, int row, int j, int tenths, int upper, int lower) {
        String call = "chance(" + n + ", " + row + ", " + j + ", " + tenths + ", ";
        due(call + "true)", x.chance(n, row, j, tenths, true), upper);
        due(call + "false)", x.chance(n, row, j, tenths, false), lower);
    }

    private static void chanceBad(int n, int row, int j, int tenths) {
        String call = "chance(" + n + ", " + row + ", " + j + ", " + tenths + ")";
        refused(call, -2, x -> x.chance(n, row, j, tenths, true));
        due(call + ", below", full().chance(n, row, j, tenths, false), -2);
    }

    private static void theChances() {
        edge("24: BAD: n", () -> {
            for (int n : new int[] {0, -1, 7, 8, MIN, MAX}) {
                chanceBad(n, 0, 0, 0);
                chanceBad(n, 3333333, 0, 0);
            }
        });
        edge("24: BAD: row (n figures 0 .. 3)", () -> {
            for (int row : new int[] {-1, 4, 10, 33, MIN, MAX}) {
                chanceBad(1, row, 0, 0);
            }
            for (int row : new int[] {400000, 333334, 1000000, 1333333, -333333}) {
                chanceBad(6, row, 0, 0);
            }
        });
        edge("24: BAD: j", () -> {
            for (int j : new int[] {-1, 100, MIN, MAX}) {
                chanceBad(1, 3, j, 0);
            }
        });
        edge("24: BAD: x", () -> {
            for (int tenths : new int[] {-1, 11, MIN, MAX}) {
                chanceBad(1, 3, 0, tenths);
            }
        });
        edge("24: BAD is told of a ROW that can not be", () -> chanceBad(1, 0, 100, 0));
        edge("24: j (0 .. 99): the least, the most", () -> {
            chanceIs(on("N9H2999"), 1, 2, 0, 3, 1, 1);
            chanceIs(on("N9H2999"), 1, 2, 99, 3, 0, 1);
        });
        edge("24: that JOY is j more, or more", () -> {
            chanceIs(on("N9H2999"), 1, 2, 9, 3, 7, 10);
            chanceIs(on("N9H2999"), 1, 2, 10, 3, 7, 10);
            chanceIs(on("N9H2999"), 1, 2, 11, 3, 0, 1);
        });
        edge("24: fogged by x tenths (0 .. 10): never, always", () -> {
            chanceIs(on("N9H2999"), 3, 222, 30, 0, 1, 1);
            chanceIs(on("N9H2999"), 3, 222, 1, 10, 0, 1);
            chanceIs(on("N9H2999"), 3, 222, 0, 10, 1, 1);
        });
        edge("24: a ROW of n TURNS (1 .. 6): one, six; each LOOK by itself", () -> {
            chanceIs(on("N9H2999H2999"), 1, 2, 1, 1, 9, 10);
            chanceIs(on("N9H2999H2999"), 6, 222122, 50, 1, 59049, 100000);
            chanceIs(on("N9H2999H2999"), 6, 222122, 1, 1, 99999, 100000);
            chanceIs(on("N9H2999H2999"), 6, 222222, 30, 1, 729, 1000);
        });
        edge("24: a ROW without a LOOK", () -> {
            chanceIs(new KeyholeNews(), 6, 333333, 0, 10, 1, 1);
            chanceIs(new KeyholeNews(), 6, 333333, 1, 0, 0, 1);
        });
        edge("24: it is READ, but there is no JOY of it", () -> {
            chanceIs(on("N9H0999"), 4, 2332, 9, 4, 3, 5);
            chanceIs(on("N9H0999"), 4, 2332, 10, 0, 0, 1);
        });
        edge("24: 0, if the ROW can not be", () -> {
            chanceIs(new KeyholeNews(), 1, 0, 0, 0, 0, 1);
            chanceIs(on("N9"), 1, 2, 0, 0, 0, 1);
            chanceIs(small(), 2, 32, 0, 0, 0, 1);
            chanceIs(on("N2H0999"), 3, 222, 0, 5, 0, 1);
            chanceIs(on("N2H0999H0999"), 2, 11, 0, 5, 0, 1);
            chanceIs(on("N2H0999H0999"), 2, 0, 0, 5, 0, 1);
        });
        edge("24: not by what JOY there was", () -> chanceIs(on("N9H0999", x -> x.look()), 1, 2, 10, 0, 0, 1));
        edge("24: nothing is changed", () -> changesNothing("chance", x -> x.chance(3, 222, 1, 5, true)));
    }

    private static final BigInteger TIMES = new BigInteger("6364136223846793005");
    private static final BigInteger PLUS = new BigInteger("1442695040888963407");
    private static final BigInteger WRAP = BigInteger.ONE.shiftLeft(64);

    private static BigInteger next(BigInteger x) {
        return x.multiply(TIMES).add(PLUS).mod(WRAP);
    }

    private static BigInteger before(BigInteger x) {
        return x.subtract(PLUS).multiply(TIMES.modInverse(WRAP)).mod(WRAP);
    }

    /** A SEED by which the rounds are of these kinds (what is left by 9). */
    private static long seedOf(int... kinds) {
        for (long upper = kinds[0]; upper < 1L << 31; upper += 9) {
            BigInteger x = BigInteger.valueOf(upper).shiftLeft(33);
            BigInteger first = x;
            int like = 0;
            while (like < kinds.length && x.shiftRight(33).mod(BigInteger.valueOf(9)).intValue() == kinds[like]) {
                x = next(x);
                like++;
            }
            if (like == kinds.length) {
                return before(first).longValue();
            }
        }
        fault("there is no such seed");
        return 0;
    }

    private static void roundsAre(KeyholeNews x, int joy, int... kinds) {
        x.seed(seedOf(kinds));
        due("rounds(" + kinds.length + ") of " + Arrays.toString(kinds), x.rounds(kinds.length), joy);
    }

    private static void theSeed() {
        edge("25: THE SEED, a long; 0 at first", () -> {
            KeyholeNews x = new KeyholeNews();
            due("seed(MIN)", x.seed(Long.MIN_VALUE), 0);
            due("seed(MAX)", x.seed(Long.MAX_VALUE), Long.MIN_VALUE);
            due("seed(-1)", x.seed(-1), Long.MAX_VALUE);
            due("seed(2^31)", x.seed(1L << 31), -1);
            due("seed(0)", x.seed(0), 1L << 31);
        });
        edge("26: (64 bits, wrapping): from 0, from the ends", () -> {
            for (long from : new long[] {0, 1, -1, Long.MIN_VALUE, Long.MAX_VALUE}) {
                KeyholeNews x = new KeyholeNews();
                x.seed(from);
                x.rounds(1);
                due("seed behind rounds(1) from " + from, x.seed(0), next(BigInteger.valueOf(from)).longValue());
            }
            KeyholeNews y = new KeyholeNews();
            y.rounds(1);
            due("seed behind rounds(1)", y.seed(0), 1442695040888963407L);
        });
        edge("26: wrapping: THE SEED that becomes 0, that becomes -1", () -> {
            KeyholeNews x = new KeyholeNews();
            x.seed(before(BigInteger.ZERO).longValue());
            x.rounds(1);
            due("seed(0)", x.seed(0), 0);
            x.seed(before(WRAP.subtract(BigInteger.ONE)).longValue());
            x.rounds(1);
            due("seed(0)", x.seed(0), -1);
        });
    }

    private static int roundsFrom(String text, long upper) {
        KeyholeNews x = on(text);
        x.seed(before(BigInteger.valueOf(upper).shiftLeft(33)).longValue());
        return x.rounds(1);
    }

    private static void theRounds() {
        edge("26: BAD: m", () -> {
            for (int m : new int[] {0, -1, 31, 32, MIN, MAX}) {
                refused("rounds(" + m + ")", -2, x -> x.rounds(m));
            }
        });
        edge("26: m times (1 .. 30): once, thirty times", () -> {
            for (int m : new int[] {1, 30}) {
                KeyholeNews x = new KeyholeNews();
                x.rounds(m);
                BigInteger want = BigInteger.ZERO;
                for (int i = 0; i < m; i++) {
                    want = next(want);
                }
                due("seed behind rounds(" + m + ")", x.seed(0), want.longValue());
            }
        });
        edge("26: what is left of its upper 31 bits by 9: above 0, below 0 as a long", () -> {
            due("upper bits 2", roundsFrom("N9H0900", 2), 9);
            due("upper bits 11", roundsFrom("N9H0900", 11), 9);
            due("upper bits 2^30 - 8", roundsFrom("N9H0900", (1L << 30) - 8), 9);
            due("upper bits 2^30 + 1, a seed below 0", roundsFrom("N9H0900", (1L << 30) + 1), 9);
            due("upper bits 2^31 - 9, the last by which 2 is left", roundsFrom("N9H0900", (1L << 31) - 9), 9);
            due("upper bits 2^31 - 1: 1 is left", roundsFrom("N9H0900", (1L << 31) - 1), 0);
        });
        edge("26: the lower 33 bits do not count", () -> {
            KeyholeNews x = on("N9H0900");
            BigInteger least = BigInteger.TWO.shiftLeft(33);
            x.seed(before(least.add(BigInteger.ONE.shiftLeft(33)).subtract(BigInteger.ONE)).longValue());
            due("upper bits 2, the others all in", x.rounds(1), 9);
            x.seed(before(least.subtract(BigInteger.ONE)).longValue());
            due("upper bits 1, the others all in", x.rounds(1), 0);
        });
        edge("26: 0 .. 2 a TURN 0 .. 2", () -> {
            roundsAre(on("N9H0900H0070"), 9, 2);
            roundsAre(on("N9H0900H0070"), 7, 1, 2);
            roundsAre(on("N9H0009H0070"), 9, 1, 0, 2);
        });
        edge("26: if it can be, else WAITED: before the first, behind the last, without FARTHINGS", () -> {
            roundsAre(on("N9H0590"), 9, 0, 2);
            roundsAre(on("N9H0590"), 9, 1, 2);
            roundsAre(on("N1H0594"), 5, 2, 2, 2);
            roundsAre(on("N9H0900H0070H0004"), 4, 1, 1, 2);
            roundsAre(new KeyholeNews(), 0, 0, 1, 2);
            KeyholeNews x = on("N0H0999");
            roundsAre(x, 0, 2, 2);
        });
        edge("26: less 3 HOUSE has another lamp (LAMP): the first, the last of six; it takes no HOUR", () -> {
            roundsAre(on("N9H0950"), 0, 3, 2);
            roundsAre(on("N9H0950"), 9, 3, 3, 2);
            KeyholeNews x = on("N9H0000H0000H0000H0000H0000H0999", y -> walks(y, 5));
            roundsAre(x, 9, 2);
            roundsAre(x, 9, 7, 2);
            roundsAre(x, 0, 8, 2);
            roundsAre(x, 9, 8, 8, 2);
        });
        edge("26: if there is such a one: else nothing, no HOUR either", () -> {
            roundsAre(on("N9H0950"), 9, 4, 2);
            roundsAre(on("N9H0950"), 9, 8, 2);
            roundsAre(on("N9H0900H0070"), 9, 5, 2);
            roundsAre(new KeyholeNews(), 0, 3);
        });
        edge("26: JOY that is more at last: not what there was", () -> {
            KeyholeNews x = on("N9H0950", y -> y.look());
            roundsAre(x, 5, 2);
            roundsAre(x, 5, 2, 2, 2);
        });
        edge("26: Nothing changes but THE SEED", () -> {
            changesNothing("rounds(30)", x -> {
                long was = x.seed(0);
                x.seed(was);
                x.rounds(30);
                return x.seed(was);
            });
        });
    }

    // ---- slots: promises 27, 28, and refusals

    private static void theSlots() {
        edge("27: UNKNOWN (SLOTS 0 .. 1)", () -> {
            for (int slot : new int[] {-1, 2, 32, 33, -32, MIN, MAX}) {
                refused("keep(" + slot + ")", -1, x -> x.keep(slot));
            }
        });
        edge("27: THE HOUR: of a new object, behind 99", () -> {
            KeyholeNews x = new KeyholeNews();
            due("keep(0)", x.keep(0), 0);
            pauses(x, 120);
            due("keep(1)", x.keep(1), 120);
            due("again(0)", x.again(0), 0);
            due("again(1)", x.again(1), 120);
        });
        edge("27: what was kept before is gone, the other slot is not", () -> {
            KeyholeNews x = on("N9" + THREE);
            x.keep(0);
            x.keep(1);
            x.pause();
            due("keep(1)", x.keep(1), 1);
            due("again(0)", x.again(0), 0);
            due("again(1)", x.again(1), 1);
        });
        edge("27: it is no ACT, and ACTS stay", () -> {
            KeyholeNews x = on("N9" + THREE, y -> y.pause());
            x.keep(0);
            due("about(7)", x.about(7), 1);
            due("undo()", x.undo(), 0);
        });
        edge("28: UNKNOWN (SLOTS 0 .. 1)", () -> {
            for (int slot : new int[] {-1, 2, 32, 33, -32, MIN, MAX}) {
                refused("again(" + slot + ")", -1, x -> x.again(slot));
            }
        });
        edge("28: LATE: none were kept", () -> {
            due("again(0)", new KeyholeNews().again(0), -3);
            due("again(1)", new KeyholeNews().again(1), -3);
            unchanged("again(0)", small(), small(), x -> x.again(0));
            unchanged("again(1)", small(), small(), x -> x.again(1));
        });
        edge("28: LATE: none were kept in this one", () -> {
            due("again(1)", on("N9", x -> x.keep(0)).again(1), -3);
            due("again(0)", on("N9", x -> x.keep(1)).again(0), -3);
            unchanged("again(1)", atTheLast(), atTheLast(), x -> x.again(1));
        });
        edge("28: they are as they were kept: all of them, and not SEEN, THE SEED, THE TEXT", () -> {
            KeyholeNews x = on("N5" + THREE);
            looks(x, 1);
            x.walk(1);
            x.lamp(0);
            x.key(2);
            x.keep(1);
            x.lamp(1);
            x.key(0);
            x.walk(1);
            x.look();
            x.see(0, 1, 1, 1);
            x.seed(8);
            x.write(72);
            due("again(1)", x.again(1), 2);
            int[] want = {3, 1, 4, 2, 1, 6, 4, 0, 1, 18};
            for (int what = 0; what <= 9; what++) {
                due("about(" + what + ")", x.about(what), want[what]);
            }
            due("house(0, 4)", x.house(0, 4), 1);
            due("house(2, 4)", x.house(2, 4), 0);
            due("seed(0)", x.seed(0), 8);
        });
        edge("28: no ACTS when one goes on", () -> {
            KeyholeNews x = on("N5" + THREE, y -> pauses(y, 14));
            x.keep(0);
            due("again(0)", x.again(0), 14);
            due("about(7)", x.about(7), 0);
            due("undo()", x.undo(), -3);
            pauses(x, 15);
            undoAll(x, 14);
            due("about(3)", x.about(3), 15);
        });
        edge("28: what is kept stays kept, whatever comes behind", () -> {
            KeyholeNews x = on("N5" + THREE);
            x.keep(0);
            for (int i = 0; i < 3; i++) {
                looks(x, 1);
                x.walk(1);
                due("again(0)", x.again(0), 0);
                due("about(1)", x.about(1), 0);
                due("about(2)", x.about(2), 5);
            }
        });
        refusals();
    }

    private static void refusals() {
        edge("R: UNKNOWN -1, BAD -2, LATE -3, FULL -4, NONE is -9", () -> {
            due("UNKNOWN", KeyholeNews.UNKNOWN, -1);
            due("BAD", KeyholeNews.BAD, -2);
            due("LATE", KeyholeNews.LATE, -3);
            due("FULL", KeyholeNews.FULL, -4);
            due("NONE", KeyholeNews.NONE, -9);
        });
        edge("R: FRACTIONS are told above (upper = true), below, in least terms: 0, 1, a whole, a part", () -> {
            chanceIs(on("N9H0999"), 1, 2, 1, 10, 0, 1);
            chanceIs(on("N9H0999"), 1, 2, 1, 0, 1, 1);
            chanceIs(on("N9H0999"), 1, 2, 1, 8, 1, 5);
            shareIs(on("N9H0600H0005"), 0, 6, 1);
            shareIs(on("N1H0600H0005"), 0, 7, 2);
        });
    }

    public static void main(String[] args) {
        head();
        hours();
        texts();
        faults();
        anew();
        sights();
        theStreet();
        theActs();
        theRows();
        theShapes();
        theRests();
        theSlots();
        System.out.println(wrong == 0 ? edges + " edges hold" : wrong + " answers are not as due");
        if (wrong != 0) {
            System.exit(1);
        }
    }
}
