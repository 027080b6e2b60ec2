/** Each promise by itself: ordinary inputs, the edges that the document names, wrong inputs. */
public final class PromisesTest {
    private static int wrong = 0;
    private static int promise = 0;

    private static void due(String call, long got, long want) {
        if (got != want) {
            wrong++;
            System.out.println("promise " + promise + ": " + call + " answered " + got + ", due is " + want);
        }
    }

    private static KeyholeNews told(String text) {
        KeyholeNews x = new KeyholeNews();
        tell(x, text);
        return x;
    }

    private static void tell(KeyholeNews x, String text) {
        x.wipe();
        for (int i = 0; i < text.length(); i++) {
            x.write(text.charAt(i));
        }
    }

    private static KeyholeNews on(String text) {
        KeyholeNews x = told(text);
        x.street();
        return x;
    }

    /** about(0) .. about(9), as one text. */
    private static String all(KeyholeNews x) {
        StringBuilder told = new StringBuilder();
        for (int what = 0; what <= 9; what++) {
            told.append(x.about(what)).append(' ');
        }
        return told.toString();
    }

    private static void same(String call, String got, String want) {
        if (!got.equals(want)) {
            wrong++;
            System.out.println("promise " + promise + ": after " + call + " about(0 .. 9) is " + got + ", due is " + want);
        }
    }

    private static final String SIX = "H0123H1234H2345H3456H0567H1678";

    private static void newObject() {
        KeyholeNews x = new KeyholeNews();
        same("new", all(x), "0 0 0 0 0 0 0 0 0 0 ");
        due("undo()", x.undo(), -3);
        due("again(0)", x.again(0), -3);
        due("again(1)", x.again(1), -3);
        due("house(0, 0)", x.house(0, 0), -1);
        due("seed(7)", x.seed(7), 0);
        due("unsee()", x.unsee(), 0);
        due("UNKNOWN", KeyholeNews.UNKNOWN, -1);
        due("BAD", KeyholeNews.BAD, -2);
        due("LATE", KeyholeNews.LATE, -3);
        due("FULL", KeyholeNews.FULL, -4);
        due("NONE", KeyholeNews.NONE, -9);
    }

    private static void write() {
        KeyholeNews x = new KeyholeNews();
        due("write(0)", x.write(0), 1);
        due("write(255)", x.write(255), 2);
        due("write(-1)", x.write(-1), -2);
        due("write(256)", x.write(256), -2);
        due("write(MIN)", x.write(Integer.MIN_VALUE), -2);
        due("write(MAX)", x.write(Integer.MAX_VALUE), -2);
        due("about(9)", x.about(9), 2);
        for (int i = 3; i <= 48; i++) {
            due("write(78)", x.write(78), i);
        }
        due("write(78), full", x.write(78), -4);
        due("write(256), full", x.write(256), -2);
        due("about(9)", x.about(9), 48);
    }

    private static void wipe() {
        KeyholeNews x = told("N0");
        due("wipe()", x.wipe(), 2);
        due("about(9)", x.about(9), 0);
        due("wipe()", x.wipe(), 0);
        due("fault()", x.fault(), 0);
        due("write(78)", x.write(78), 1);
        due("fault()", x.fault(), 1);
        KeyholeNews y = on("N4" + SIX);
        due("wipe() behind street()", y.wipe(), 32);
        due("about(0)", y.about(0), 6);
    }

    private static void faultOf(String text, int want) {
        due("fault() of " + text, told(text).fault(), want);
    }

    private static void fault() {
        faultOf("", 0);
        faultOf("n", 0);
        faultOf("N", 1);
        faultOf("N/", 1);
        faultOf("N:", 1);
        faultOf("NA0H0000", 1);
        faultOf("N0", -9);
        faultOf("N9", -9);
        faultOf("N00", 2);
        faultOf("N0h", 2);
        faultOf("N0N", 2);
        faultOf("N0H", 3);
        faultOf("N0H/", 3);
        faultOf("N0H4", 3);
        faultOf("N0H3", 4);
        faultOf("N0H3x", 4);
        faultOf("N0H39", 5);
        faultOf("N0H39:", 5);
        faultOf("N0H390", 6);
        faultOf("N0H390/", 6);
        faultOf("N0H3909", -9);
        faultOf("N0H39090", 7);
        faultOf("N0H3909H", 8);
        faultOf("N0H3909H4", 8);
        faultOf("N9" + SIX, -9);
        faultOf("N9" + SIX + "H", 32);
        faultOf("N9" + SIX + "HHHHHHHHHHHHHHHH", 32);
        faultOf("N9" + SIX.substring(0, 29), 31);
        faultOf("N\u00ff", 1);
        faultOf("\u0000", 0);
    }

    private static void street() {
        KeyholeNews x = told("N7H0123H1456");
        due("street()", x.street(), 2);
        same("street()", all(x), "2 0 7 0 0 3 0 0 0 12 ");
        x.seed(77);
        x.see(1, 5, 5, 5);
        x.look();
        x.walk(1);
        x.lamp(0);
        x.key(1);
        x.keep(0);
        x.keep(1);
        tell(x, "N7H012");
        String before = all(x);
        due("street(), a fault", x.street(), -3);
        same("street(), a fault", all(x), before);
        due("again(0), kept still", x.again(0), 2);
        x.lamp(0);
        tell(x, "N3" + SIX);
        due("street()", x.street(), 6);
        same("street()", all(x), "6 0 3 0 0 63 0 0 1 32 ");
        due("house(0, 4)", x.house(0, 4), 0);
        due("again(0)", x.again(0), -3);
        due("again(1)", x.again(1), -3);
        due("undo()", x.undo(), -3);
        due("seed(0)", x.seed(0), 77);
        due("shapes(1)", x.shapes(1), 1);
        tell(x, "N0");
        due("about(0) before street()", x.about(0), 6);
        due("street(), no houses", x.street(), 0);
        same("street()", all(x), "0 0 0 0 0 0 0 0 1 2 ");
        due("shapes(1)", x.shapes(1), -1);
        due("fault()", x.fault(), -9);
    }

    private static void about() {
        KeyholeNews x = on("N5H0123H1456H2789");
        x.walk(1);
        x.look();
        x.lamp(0);
        x.key(2);
        x.see(0, 1, 1, 1);
        x.see(0, 2, 2, 2);
        same("acts", all(x), "3 1 4 2 2 6 4 4 2 17 ");
        due("about(-1)", x.about(-1), -2);
        due("about(10)", x.about(10), -2);
        due("about(MAX)", x.about(Integer.MAX_VALUE), -2);
        due("about(MIN)", x.about(Integer.MIN_VALUE), -2);
    }

    private static void house() {
        KeyholeNews x = on("N5H3123H1456");
        due("house(0, 0)", x.house(0, 0), 3);
        due("house(1, 0)", x.house(1, 0), 1);
        due("house(1, 1)", x.house(1, 1), 4);
        due("house(1, 2)", x.house(1, 2), 5);
        due("house(1, 3)", x.house(1, 3), 6);
        due("house(1, 4)", x.house(1, 4), 0);
        x.walk(1);
        x.look();
        due("house(1, 4)", x.house(1, 4), 2);
        due("house(0, 4)", x.house(0, 4), 0);
        x.look();
        x.walk(0);
        x.pause();
        x.look();
        due("house(1, 4)", x.house(1, 4), 6);
        due("house(0, 4)", x.house(0, 4), 4);
        KeyholeNews y = on("N5H0555H0555");
        y.pause();
        y.pause();
        y.walk(1);
        y.look();
        due("house(0, 4), the next one's is not its own", y.house(0, 4), 0);
        due("house(1, 4)", y.house(1, 4), 1);
        due("house(0, 5)", x.house(0, 5), -2);
        due("house(0, -1)", x.house(0, -1), -2);
        due("house(2, 0)", x.house(2, 0), -1);
        due("house(-1, 0)", x.house(-1, 0), -1);
        due("house(2, 5)", x.house(2, 5), -1);
        due("house(MAX, MAX)", x.house(Integer.MAX_VALUE, Integer.MAX_VALUE), -1);
        due("house(MIN, 0)", x.house(Integer.MIN_VALUE, 0), -1);
    }

    private static void sight() {
        KeyholeNews x = on("N5H0129H1129H2091H3789");
        int[][] want = {{1, 2, 9, 1, 2, 9}, {0, 1, 4, 0, 1, 4}, {0, 10, 2, 0, 10, 2}, {7, 0, 9, 0, 8, 0}};
        for (int house = 0; house < 4; house++) {
            for (int hour = 0; hour < 6; hour++) {
                due("sight(" + house + ", " + hour + ")", x.sight(house, hour), want[house][hour]);
            }
        }
        due("sight(0, 99)", x.sight(0, 99), 1);
        due("sight(3, 99)", x.sight(3, 99), 0);
        due("sight(3, 98)", x.sight(3, 98), 9);
        due("sight(0, 100)", x.sight(0, 100), -2);
        due("sight(0, -1)", x.sight(0, -1), -2);
        due("sight(4, 0)", x.sight(4, 0), -1);
        due("sight(4, 100)", x.sight(4, 100), -1);
        due("sight(-1, 0)", x.sight(-1, 0), -1);
        x.lamp(0);
        due("sight(0, 0), dark", x.sight(0, 0), 0);
        x.key(0);
        x.lamp(0);
        due("sight(0, 0), a key in", x.sight(0, 0), 0);
        x.key(0);
        due("sight(0, 0)", x.sight(0, 0), 1);
        x.key(2);
        due("sight(2, 1), a key in", x.sight(2, 1), 0);
        x.look();
        due("sight(0, 0), read", x.sight(0, 0), 1);
    }

    private static void walk() {
        KeyholeNews x = on("N5H0129H1129H2091");
        due("walk(0)", x.walk(0), -3);
        due("about(3)", x.about(3), 0);
        due("about(7)", x.about(7), 0);
        due("walk(1)", x.walk(1), 1);
        due("walk(1)", x.walk(1), 2);
        due("walk(1)", x.walk(1), -3);
        due("walk(0)", x.walk(0), 1);
        due("walk(2)", x.walk(2), -2);
        due("walk(-1)", x.walk(-1), -2);
        same("walks", all(x), "3 1 5 3 0 7 0 3 0 17 ");
        due("walk(2), no houses", new KeyholeNews().walk(2), -2);
        due("walk(0), no houses", new KeyholeNews().walk(0), -3);
        due("walk(1), no houses", new KeyholeNews().walk(1), -3);
    }

    private static void look() {
        KeyholeNews x = on("N6H2120");
        due("look()", x.look(), 2);
        due("look()", x.look(), 3);
        due("look()", x.look(), 0);
        due("look(), read", x.look(), 0);
        same("looks", all(x), "1 0 2 4 5 1 0 4 0 7 ");
        due("house(0, 4)", x.house(0, 4), 7);
        x.look();
        x.look();
        due("look(), no farthings", x.look(), -3);
        due("about(3)", x.about(3), 6);
        due("look(), no houses", on("N9").look(), -3);
        KeyholeNews y = on("N6H0555");
        y.lamp(0);
        due("look(), dark", y.look(), 0);
        due("house(0, 4), dark", y.house(0, 4), 1);
        y.lamp(0);
        y.key(0);
        due("look(), a key in", y.look(), 0);
        y.key(0);
        due("look()", y.look(), 5);
        due("look(), read in the dark", y.look(), 0);
        KeyholeNews low = on("N6H3555");
        low.pause();
        due("look(), low and odd", low.look(), 0);
        low.pause();
        low.pause();
        due("look(), read when nothing was seen", low.look(), 0);
    }

    private static void pause() {
        KeyholeNews x = new KeyholeNews();
        due("pause()", x.pause(), 1);
        due("pause()", x.pause(), 2);
        same("pauses", all(x), "0 0 0 2 0 0 0 2 0 0 ");
        KeyholeNews y = on("N1H0555");
        due("pause()", y.pause(), 1);
        same("pause()", all(y), "1 0 1 1 0 1 0 1 0 7 ");
    }

    private static void lamp() {
        KeyholeNews x = on("N1H0555H0555");
        due("lamp(1)", x.lamp(1), 0);
        same("lamp(1)", all(x), "2 0 1 0 0 1 0 1 0 12 ");
        due("lamp(1)", x.lamp(1), 1);
        due("lamp(0)", x.lamp(0), 0);
        same("lamp(0)", all(x), "2 0 1 0 0 2 0 3 0 12 ");
        due("lamp(2)", x.lamp(2), -1);
        due("lamp(-1)", x.lamp(-1), -1);
        due("lamp(MAX)", x.lamp(Integer.MAX_VALUE), -1);
        due("about(7)", x.about(7), 3);
    }

    private static void key() {
        KeyholeNews x = on("N1H0555H0555");
        due("key(1)", x.key(1), 1);
        same("key(1)", all(x), "2 0 1 0 0 3 2 1 0 12 ");
        due("key(0)", x.key(0), 1);
        due("key(1)", x.key(1), 0);
        same("key(1)", all(x), "2 0 1 0 0 3 1 3 0 12 ");
        due("key(2)", x.key(2), -1);
        due("key(-1)", x.key(-1), -1);
        due("key(MIN)", x.key(Integer.MIN_VALUE), -1);
        due("about(7)", x.about(7), 3);
    }

    private static void undo() {
        KeyholeNews x = on("N3H0555H0777");
        String[] stood = new String[6];
        stood[0] = all(x);
        x.look();
        stood[1] = all(x);
        x.walk(1);
        stood[2] = all(x);
        x.lamp(0);
        stood[3] = all(x);
        x.key(1);
        stood[4] = all(x);
        x.pause();
        x.walk(1);
        x.lamp(2);
        for (int left = 4; left >= 0; left--) {
            due("undo()", x.undo(), left);
            same("undo()", all(x), stood[left]);
        }
        due("undo()", x.undo(), -3);
        due("look(), unread again", x.look(), 5);
        for (int i = 0; i < 20; i++) {
            x.pause();
        }
        due("about(7)", x.about(7), 14);
        x.key(0);
        due("about(7)", x.about(7), 14);
        for (int left = 13; left >= 0; left--) {
            due("undo()", x.undo(), left);
        }
        due("undo()", x.undo(), -3);
        due("about(3), the first forgotten", x.about(3), 8);
        due("about(4)", x.about(4), 5);
    }

    private static void best() {
        KeyholeNews x = on("N2H0120H0900H2777");
        // hours 0, 1, 2: 1 and 2 here, 9 and 0 and 0 behind, 8 each in the third
        due("best(1, false)", x.best(1, false), 1);
        due("best(1, true)", x.best(1, true), 12);
        due("best(2, false)", x.best(2, false), 3);
        due("best(2, true)", x.best(2, true), 122);
        due("best(3, false)", x.best(3, false), 8);
        due("best(3, true)", x.best(3, true), 1112);
        due("best(4, false)", x.best(4, false), 16);
        due("best(4, true)", x.best(4, true), 11122);
        due("best(5, false)", x.best(5, false), 16);
        due("best(5, true), a walk before is the least that can be behind them", x.best(5, true), 111220);
        due("best(6, false), 9 in hour 3", x.best(6, false), 17);
        due("best(6, true), to and fro is less than waiting", x.best(6, true), 1101212);
        due("best(0, false)", x.best(0, false), -2);
        due("best(7, false)", x.best(7, false), -2);
        due("best(-1, true)", x.best(-1, true), -2);
        same("best", all(x), "3 0 2 0 0 7 0 0 0 17 ");
        due("best(6, true), no houses", new KeyholeNews().best(6, true), 1333333);
        due("best(1, true), no farthings, two houses", on("N0H0999H0999").best(1, true), 11);
        due("best(2, true), the first of like ones", on("N0H0999H0999").best(2, true), 110);
        due("best(1, true), nothing to be seen", on("N1H0000").best(1, true), 12);
        due("best(1, true), no farthings", on("N0H0000").best(1, true), 13);
        KeyholeNews y = on("N9H0990");
        y.look();
        due("best(1, false), more than it was", y.best(1, false), 9);
        y.key(0);
        due("best(6, false), a key in", y.best(6, false), 0);
    }

    private static void fewest() {
        KeyholeNews x = on("N2H0120H0900H2777");
        due("fewest(1)", x.fewest(1), 1);
        due("fewest(2)", x.fewest(2), 2);
        due("fewest(3)", x.fewest(3), 2);
        due("fewest(4)", x.fewest(4), 3);
        due("fewest(8)", x.fewest(8), 3);
        due("fewest(9)", x.fewest(9), 4);
        due("fewest(16)", x.fewest(16), 4);
        due("fewest(17)", x.fewest(17), 6);
        due("fewest(18)", x.fewest(18), -9);
        due("fewest(99)", x.fewest(99), -9);
        due("fewest(0)", x.fewest(0), -2);
        due("fewest(100)", x.fewest(100), -2);
        due("fewest(-1)", x.fewest(-1), -2);
        KeyholeNews y = on("N9H0001H0000");
        y.pause();
        y.walk(1);
        y.walk(0);
        due("fewest(1), at the sixth", y.fewest(1), 3);
        KeyholeNews z = on("N1H0000H0000H0000H0000H0000H0009");
        due("fewest(9), too far to walk", z.fewest(9), 6);
        due("fewest(10)", z.fewest(10), -9);
    }

    private static void keys() {
        KeyholeNews x = on("N9H0500H0040H0009");
        due("keys(1, 5)", x.keys(1, 5), 0);
        due("keys(1, 4)", x.keys(1, 4), 1);
        due("keys(3, 0)", x.keys(3, 0), 7);
        due("keys(2, 0), the third is too far", x.keys(2, 0), 3);
        due("keys(3, 5)", x.keys(3, 5), 4);
        due("keys(3, 9)", x.keys(3, 9), 0);
        x.key(0);
        due("keys(3, 0), one in", x.keys(3, 0), 6);
        due("keys(1, 0)", x.keys(1, 0), 0);
        due("about(6)", x.about(6), 1);
        KeyholeNews y = on("N9H0550H0055");
        due("keys(2, 5)", y.keys(2, 5), 1);
        KeyholeNews z = on("N1H0040H0004");
        due("keys(3, 3), both", z.keys(3, 3), 3);
        due("keys(3, 5), the least of like ones", on("N9H0500H0005").keys(3, 5), 1);
        due("keys(0, 0)", x.keys(0, 0), -2);
        due("keys(4, 0)", x.keys(4, 0), -2);
        due("keys(1, -1)", x.keys(1, -1), -2);
        due("keys(1, 100)", x.keys(1, 100), -2);
        due("keys(1, 99)", x.keys(1, 99), 0);
        due("keys(3, 0), no houses", new KeyholeNews().keys(3, 0), 0);
    }

    private static void judge() {
        KeyholeNews x = on("N2H0500H0040");
        due("judge(1, 2)", x.judge(1, 2), -9);
        due("judge(2, 22)", x.judge(2, 22), 1);
        due("judge(2, 12)", x.judge(2, 12), -9);
        due("judge(3, 2), walked before at first", x.judge(3, 2), 0);
        due("judge(3, 102)", x.judge(3, 102), 2);
        due("judge(2, 11)", x.judge(2, 11), 1);
        due("judge(8, 33333333)", x.judge(8, 33333333), -9);
        due("judge(8, 33333332)", x.judge(8, 33333332), 7);
        due("judge(8, 23332333)", x.judge(8, 23332333), 4);
        due("judge(5, 21333)", x.judge(5, 21333), -9);
        due("judge(8, 33333334)", x.judge(8, 33333334), -2);
        due("judge(8, 100000000)", x.judge(8, 100000000), -2);
        due("judge(9, 0)", x.judge(9, 0), -2);
        due("judge(0, 0)", x.judge(0, 0), -2);
        due("judge(2, 33)", x.judge(2, 33), -9);
        due("judge(2, 43)", x.judge(2, 43), -2);
        due("judge(2, 133)", x.judge(2, 133), -2);
        due("judge(1, -1)", x.judge(1, -1), -2);
        due("judge(8, MAX)", x.judge(8, Integer.MAX_VALUE), -2);
        due("judge(1, MIN)", x.judge(1, Integer.MIN_VALUE), -2);
        same("judge", all(x), "2 0 2 0 0 3 0 0 0 12 ");
        due("judge(3, 222), no farthing left", on("N2H0555").judge(3, 222), 2);
        x.look();
        due("judge(3, 332), read", x.judge(3, 332), 2);
    }

    private static void share() {
        // alone 6 in the first hour; with the other 6 then 5
        KeyholeNews x = on("N9H0600H0005");
        due("share(0, true)", x.share(0, true), 6);
        due("share(0, false)", x.share(0, false), 1);
        due("share(1, true)", x.share(1, true), 5);
        due("share(1, false)", x.share(1, false), 1);
        // one farthing: alone 6 and 5, together 6: (6 + 1) / 2, (5 + 0) / 2
        KeyholeNews y = on("N1H0600H0005");
        due("share(0, true)", y.share(0, true), 7);
        due("share(0, false)", y.share(0, false), 2);
        due("share(1, true)", y.share(1, true), 5);
        due("share(1, false)", y.share(1, false), 2);
        y.lamp(1);
        due("share(0, true), the other dark", y.share(0, true), 6);
        due("share(1, true), dark", y.share(1, true), 0);
        due("share(1, false), dark", y.share(1, false), 1);
        y.lamp(1);
        y.key(0);
        due("share(0, true), a key in", y.share(0, true), 0);
        due("share(1, true), the other's key in", y.share(1, true), 5);
        // one farthing for 6, 4 or 3: all three share in 3, two in 1 more, the first alone has 2 more
        KeyholeNews z = on("N1H0600H0040H0003");
        int[][] want = {{7, 2}, {3, 2}, {1, 1}};
        for (int house = 0; house < 3; house++) {
            due("share(" + house + ", true), of three", z.share(house, true), want[house][0]);
            due("share(" + house + ", false), of three", z.share(house, false), want[house][1]);
        }
        due("share(3, true), four turns off", on("N9H0000H0000H0000H0800").share(3, true), 0);
        due("share(2, true)", y.share(2, true), -1);
        due("share(-1, true)", y.share(-1, true), -1);
        due("share(0, true), no houses", new KeyholeNews().share(0, true), -1);
        same("share", all(y), "2 0 1 0 0 3 1 3 0 12 ");
    }

    private static void see() {
        KeyholeNews x = on("N9H0600H0005");
        due("see(0, 0, 0, 0)", x.see(0, 0, 0, 0), 1);
        due("see(1, 9, 9, 10)", x.see(1, 9, 9, 10), 2);
        due("see(2, 0, 0, 0)", x.see(2, 0, 0, 0), -1);
        due("see(-1, 0, 0, 0)", x.see(-1, 0, 0, 0), -1);
        due("see(2, 10, 0, 0)", x.see(2, 10, 0, 0), -1);
        due("see(0, -1, 0, 0)", x.see(0, -1, 0, 0), -2);
        due("see(0, 10, 0, 0)", x.see(0, 10, 0, 0), -2);
        due("see(0, 0, -1, 0)", x.see(0, 0, -1, 0), -2);
        due("see(0, 0, 10, 0)", x.see(0, 0, 10, 0), -2);
        due("see(0, 0, 0, -1)", x.see(0, 0, 0, -1), -2);
        due("see(0, 0, 0, 11)", x.see(0, 0, 0, 11), -2);
        due("about(8)", x.about(8), 2);
        for (int i = 3; i <= 6; i++) {
            due("see(1, 5, 0, 5)", x.see(1, 5, 0, 5), i);
        }
        due("see(1, 5, 0, 5), full", x.see(1, 5, 0, 5), -4);
        due("see(1, 10, 0, 5), full", x.see(1, 10, 0, 5), -2);
        due("see(2, 5, 0, 5), full", x.see(2, 5, 0, 5), -1);
        due("about(8)", x.about(8), 6);
        due("about(7)", x.about(7), 0);
    }

    private static void unsee() {
        KeyholeNews x = on("N9H0600H0005");
        x.see(0, 5, 0, 5);
        x.see(1, 5, 0, 2);
        due("unsee()", x.unsee(), 2);
        due("about(8)", x.about(8), 0);
        due("shapes(0)", x.shapes(0), 15);
        due("unsee()", x.unsee(), 0);
        due("see(0, 5, 0, 2)", x.see(0, 5, 0, 2), 1);
        due("shapes(0)", x.shapes(0), 2);
    }

    private static void shapesOf(int v, int t, int g, int want) {
        KeyholeNews x = on("N9H0600H0005");
        x.see(1, v, t, g);
        due("shapes(1) by see(1, " + v + ", " + t + ", " + g + ")", x.shapes(1), want);
        due("shapes(0)", x.shapes(0), 15);
    }

    private static void shapes() {
        shapesOf(5, 0, 5, 1 | 8);
        shapesOf(5, 1, 5, 1);
        shapesOf(5, 0, 2, 2);
        shapesOf(5, 0, 6, 4);
        shapesOf(5, 1, 0, 8);
        shapesOf(0, 0, 0, 15);
        shapesOf(0, 2, 1, 0);
        shapesOf(1, 9, 0, 2 | 8);
        shapesOf(1, 8, 0, 2);
        shapesOf(9, 0, 10, 4);
        shapesOf(9, 0, 4, 2);
        shapesOf(9, 3, 9, 1);
        KeyholeNews x = on("N9H0600H0005");
        x.see(0, 5, 0, 5);
        x.see(0, 5, 1, 0);
        x.see(1, 1, 1, 0);
        due("shapes(0)", x.shapes(0), 8);
        due("shapes(1)", x.shapes(1), 2 | 8);
        x.see(1, 1, 0, 1);
        due("shapes(1)", x.shapes(1), 8);
        x.see(1, 1, 0, 2);
        due("shapes(1)", x.shapes(1), 0);
        due("shapes(2)", x.shapes(2), -1);
        due("shapes(-1)", x.shapes(-1), -1);
        tell(x, "N9H0600");
        x.street();
        due("about(8), of a house that is not any more", x.about(8), 5);
        due("shapes(1)", x.shapes(1), -1);
        due("shapes(0)", x.shapes(0), 8);
        tell(x, "N9H0600H0000");
        x.street();
        due("shapes(1), there again", x.shapes(1), 0);
    }

    private static void rests() {
        // 5, 4, 2: both at the first have 2 each and would have 4; (0, 1) and (1, 0) are at rest
        KeyholeNews x = on("N9H0500H0400H0200");
        due("rests(0)", x.rests(0), 2);
        due("rests(1)", x.rests(1), 1);
        // 5, 2: both at the first have 2 each and have no more in the second
        KeyholeNews y = on("N9H0500H0200");
        due("rests(0)", y.rests(0), 3);
        due("rests(1)", y.rests(1), 0);
        y.look();
        due("rests(0), in the hour 1 nothing is to be seen", y.rests(0), 4);
        y.pause();
        y.pause();
        due("rests(0), whatever was read", y.rests(0), 3);
        y.lamp(0);
        due("rests(0), dark", y.rests(0), 1);
        due("rests(1), dark", y.rests(1), 11);
        y.key(1);
        due("rests(0), nothing to be seen", y.rests(0), 4);
        KeyholeNews z = on("N9H0000H0000H0200H0900");
        due("rests(0), both at the last", z.rests(0), 1);
        due("rests(1), both at the last", z.rests(1), 33);
        due("rests(0), no houses", new KeyholeNews().rests(0), 0);
        due("rests(1), no houses", new KeyholeNews().rests(1), -9);
        due("rests(2)", z.rests(2), -2);
        due("rests(-1)", z.rests(-1), -2);
    }

    private static void chanceIs(KeyholeNews x, int n, int row, int j, int tenths, int upper, int lower) {
        String call = "chance(" + n + ", " + row + ", " + j + ", " + tenths + ", ";
        due(call + "true)", x.chance(n, row, j, tenths, true), upper);
        due(call + "false)", x.chance(n, row, j, tenths, false), lower);
    }

    private static void chance() {
        KeyholeNews x = on("N3H0345H0000");
        chanceIs(x, 1, 2, 3, 3, 7, 10);
        chanceIs(x, 1, 2, 4, 3, 0, 1);
        chanceIs(x, 1, 2, 0, 3, 1, 1);
        chanceIs(x, 2, 22, 7, 3, 49, 100);
        chanceIs(x, 2, 22, 1, 3, 91, 100);
        chanceIs(x, 2, 22, 4, 5, 1, 2);
        // 3, 4, 5: 7 or more by all, 3 + 4, 3 + 5, 4 + 5: 343 + 3 times 147 of 1000
        chanceIs(x, 3, 222, 7, 3, 784 / 8, 1000 / 8);
        chanceIs(x, 3, 222, 12, 0, 1, 1);
        chanceIs(x, 3, 222, 1, 10, 0, 1);
        chanceIs(x, 3, 222, 0, 10, 1, 1);
        chanceIs(x, 4, 2222, 0, 3, 0, 1);
        chanceIs(x, 1, 0, 0, 3, 0, 1);
        chanceIs(x, 6, 233213, 3, 4, 3, 5);
        chanceIs(x, 6, 233233, 3, 4, 3, 5);
        due("chance, read when fogged", x.chance(4, 2332, 1, 4, true), 3);
        due("chance, read when fogged", x.chance(4, 2332, 1, 4, false), 5);
        chanceIs(x, 6, 333333, 1, 4, 0, 1);
        chanceIs(x, 6, 333333, 0, 4, 1, 1);
        chanceIs(x, 3, 222, 99, 0, 0, 1);
        due("chance(0, 0, 0, 0, true)", x.chance(0, 0, 0, 0, true), -2);
        due("chance(7, 0, 0, 0, true)", x.chance(7, 0, 0, 0, true), -2);
        due("chance(2, 333, 0, 0, true)", x.chance(2, 333, 0, 0, true), -2);
        due("chance(2, 34, 0, 0, true)", x.chance(2, 34, 0, 0, true), -2);
        due("chance(2, -1, 0, 0, true)", x.chance(2, -1, 0, 0, true), -2);
        due("chance(2, 33, -1, 0, true)", x.chance(2, 33, -1, 0, true), -2);
        due("chance(2, 33, 100, 0, true)", x.chance(2, 33, 100, 0, true), -2);
        due("chance(2, 33, 0, -1, true)", x.chance(2, 33, 0, -1, true), -2);
        due("chance(2, 33, 0, 11, true)", x.chance(2, 33, 0, 11, true), -2);
        due("chance(2, 0, 0, 11, true), a row that can not be", x.chance(2, 0, 0, 11, true), -2);
        same("chance", all(x), "2 0 3 0 0 3 0 0 0 12 ");
        KeyholeNews far = on("N9H0999H0999");
        chanceIs(far, 6, 222122, 45, 5, 1, 32);
    }

    private static void seed() {
        KeyholeNews x = new KeyholeNews();
        due("seed(MIN)", x.seed(Long.MIN_VALUE), 0);
        due("seed(MAX)", x.seed(Long.MAX_VALUE), Long.MIN_VALUE);
        due("seed(-1)", x.seed(-1), Long.MAX_VALUE);
        due("seed(0)", x.seed(0), -1);
        x.rounds(1);
        due("seed(0), a round on", x.seed(0), 1442695040888963407L);
        due("seed(0)", x.seed(0), 0);
        x.keep(0);
        x.seed(4);
        x.again(0);
        due("seed(0), nothing that is kept", x.seed(0), 4);
    }

    private static void rounds() {
        KeyholeNews x = on("N9H0987H0654");
        x.look();
        String before = all(x);
        long seed = 0;
        for (int m = 1; m <= 30; m++) {
            long from = seed;
            int[] stand = {0, 8, 1, 3, 1};
            int joy = 0;
            for (int i = 0; i < m; i++) {
                seed = seed * 6364136223846793005L + 1442695040888963407L;
                joy += round(stand, Long.remainderUnsigned(seed >>> 33, 9));
            }
            due("rounds(" + m + ") from " + from, x.rounds(m), joy);
            due("seed", x.seed(seed), seed);
        }
        same("rounds", all(x), before);
        due("house(0, 4)", x.house(0, 4), 1);
        due("rounds(0)", x.rounds(0), -2);
        due("rounds(31)", x.rounds(31), -2);
        due("rounds(-1)", x.rounds(-1), -2);
        due("seed, refused", x.seed(0), seed);
        due("rounds(30), no houses", new KeyholeNews().rounds(30), 0);
    }

    /** One round in the street of two: where, farthings, hour, lamps, what was read. */
    private static int round(int[] stand, long kind) {
        int joy = 0;
        if (kind >= 3) {
            if (kind <= 4) {
                stand[3] ^= kind == 3 ? 1 : 2;
            }
            return 0;
        }
        if (kind == 0 && stand[0] == 1) {
            stand[0] = 0;
        } else if (kind == 1 && stand[0] == 0) {
            stand[0] = 1;
        } else if (kind == 2 && stand[1] > 0) {
            int bit = 1 << stand[0] * 3 + stand[2] % 3;
            boolean lit = (stand[3] & (stand[0] + 1)) != 0;
            joy = (stand[4] & bit) == 0 && lit ? 9 - stand[0] * 3 - stand[2] % 3 : 0;
            stand[4] |= bit;
            stand[1]--;
        }
        stand[2]++;
        return joy;
    }

    private static void keep() {
        KeyholeNews x = on("N5H0123H1456");
        due("keep(0)", x.keep(0), 0);
        x.pause();
        due("keep(1)", x.keep(1), 1);
        due("about(7)", x.about(7), 1);
        due("keep(2)", x.keep(2), -1);
        due("keep(-1)", x.keep(-1), -1);
        due("keep(MAX)", x.keep(Integer.MAX_VALUE), -1);
        due("keep(32)", x.keep(32), -1);
        x.pause();
        due("keep(1) anew", x.keep(1), 2);
        due("again(1)", x.again(1), 2);
        due("again(0)", x.again(0), 0);
        due("keep(0), no houses", new KeyholeNews().keep(0), 0);
    }

    private static void again() {
        KeyholeNews x = on("N5H0123H1456");
        due("again(1)", x.again(1), -3);
        due("again(2)", x.again(2), -1);
        due("again(-1)", x.again(-1), -1);
        x.look();
        x.walk(1);
        x.lamp(0);
        x.key(1);
        x.keep(1);
        due("again(0)", x.again(0), -3);
        x.lamp(0);
        x.key(0);
        x.walk(0);
        x.look();
        x.see(0, 1, 1, 1);
        due("again(1)", x.again(1), 2);
        same("again(1)", all(x), "2 1 4 2 1 2 2 0 1 12 ");
        due("house(0, 4)", x.house(0, 4), 1);
        due("undo()", x.undo(), -3);
        x.pause();
        due("undo()", x.undo(), 0);
        x.look();
        due("again(1), once more", x.again(1), 2);
        same("again(1)", all(x), "2 1 4 2 1 2 2 0 1 12 ");
    }

    private static void run(int number) {
        promise = number;
        switch (number) {
            case 1: newObject(); break;
            case 2: write(); break;
            case 3: wipe(); break;
            case 4: fault(); break;
            case 5: street(); break;
            case 6: about(); break;
            case 7: house(); break;
            case 8: sight(); break;
            case 9: walk(); break;
            case 10: look(); break;
            case 11: pause(); break;
            case 12: lamp(); break;
            case 13: key(); break;
            case 14: undo(); break;
            case 15: best(); break;
            case 16: fewest(); break;
            case 17: keys(); break;
            case 18: judge(); break;
            case 19: share(); break;
            case 20: see(); break;
            case 21: unsee(); break;
            case 22: shapes(); break;
            case 23: rests(); break;
            case 24: chance(); break;
            case 25: seed(); break;
            case 26: rounds(); break;
            case 27: keep(); break;
            default: again();
        }
    }

    public static void main(String[] args) {
        for (int number = 1; number <= 28; number++) {
            run(number);
        }
        System.out.println(wrong == 0 ? "all answers are as due" : wrong + " answers are not as due");
        if (wrong != 0) {
            System.exit(1);
        }
    }
}
