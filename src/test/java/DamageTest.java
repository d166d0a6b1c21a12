/** Promises 3 and 7: what is read of damaged data. */
final class DamageTest {
    private static final Check CHECK = new Check();

    public static void main(String[] args) {
        kindsOfDamage();
        whatIsReadStays();
        markersThatAreWrong();
        goingOn();
        unitsOfThreeBands();
        damageStays();
        behindTheScan();
        CHECK.end();
    }

    private static Stream row(int blocks, int interval) {
        return Stream.begin().interval(interval).frame(192, 8 * blocks, 8).scan(1, 0, 63, 0, 0);
    }

    /** Damage of each block as a text of digits, and first coefficients. */
    private static void damage(String what, Stream stream, String due, int... first) {
        DctFilter x = stream.given();
        CHECK.same(what + " read", x.read(), 8);
        int sum = 0;
        for (int i = 0; i < due.length(); i++) {
            int one = due.charAt(i) - '0';
            sum += one;
            CHECK.same(what + " damage of " + i, x.told(i, 3), one);
        }
        CHECK.same(what + " damaged", x.told(-1, 5), sum);
        for (int i = 0; i < first.length; i++) {
            CHECK.same(what + " first of " + i, x.coefficient(i, 0), first[i]);
        }
    }

    private static void kindsOfDamage() {
        damage("whole", row(3, 0).flat(5).flat(0).flat(1).end(), "000", 5, 5, 6);
        damage("bits end in a code", row(2, 0).flat(5).bits(0, 4).end(), "01", 5, 0);
        damage("no data", row(2, 0).end(), "11", 0, 0);
        damage("a code is none", row(2, 0).flat(5).bits(255, 8).flat(1).end(), "01", 5, 0);
        damage("s is 12", row(2, 0).flat(5).symbol(12).bits(0, 12).symbol(0).end(), "01", 5, 0);
        damage("s is 11", row(2, 0).flat(5).flat(-2047).end(), "00", 5, -2042);
        damage("s of others is 11", row(2, 0).value(0, 5).symbol(11).bits(0, 11).symbol(0).flat(1).end(), "11", 5, 0);
        damage("beyond the last one", row(2, 0).value(0, 5).symbol(240).symbol(240).symbol(240).value(15, 1).flat(1).end(), "11", 5);
        damage("the last one", row(2, 0).value(0, 5).symbol(240).symbol(240).symbol(240).value(14, 1).flat(1).end(), "00", 5, 6);
        damage("sixteen are passed beyond", row(2, 0).value(0, 5).value(9, 1).symbol(240).symbol(240).symbol(240).symbol(240)
                .flat(1).end(), "00", 5, 6);
        for (int r = 1; r < 15; r++) {
            damage("the block ends", row(2, 0).value(0, 5).symbol(16 * r).flat(1).end(), "00", 5, 6);
        }
        damage("a marker within data", row(3, 0).flat(5).fill().put(255, 254, 0, 6, 1, 1, 1, 1).put(255, 217), "011", 5);
    }

    private static void whatIsReadStays() {
        Stream stream = row(2, 0).flat(1).value(0, 2).value(0, 77).value(3, -9).symbol(11).end();
        DctFilter x = stream.given();
        CHECK.same("read", x.read(), 8);
        CHECK.same("damaged", x.told(1, 3), 1);
        CHECK.same("first", x.coefficient(1, 0), 3);
        CHECK.same("second", x.coefficient(1, 1), 77);
        CHECK.same("sixth", x.coefficient(1, 5), -9);
        CHECK.same("next", x.coefficient(1, 6), 0);
    }

    private static void markersThatAreWrong() {
        damage("good", row(3, 1).flat(1).restart(0).flat(2).restart(1).flat(3).end(), "000", 1, 2, 3);
        damage("none", row(3, 1).flat(1).flat(2).flat(3).end(), "011", 1, 0, 0);
        damage("the number before", row(3, 1).flat(1).restart(0).flat(2).restart(0).flat(3).end(), "001", 1, 2, 0);
        damage("the number behind", row(3, 1).flat(1).restart(1).flat(2).restart(2).flat(3).end(), "010", 1, 0, 2);
        damage("a byte before", row(3, 1).flat(1).fill().put(7).restart(0).flat(2).restart(1).flat(3).end(), "011", 1, 0, 0);
        damage("255 before", row(3, 1).flat(1).fill().put(255).restart(0).end(), "011", 1, 0, 0);
        damage("one behind the last", row(2, 1).flat(1).restart(0).flat(2).restart(1).end(), "00", 1, 2);
        damage("one where it is not due", row(3, 2).flat(1).restart(0).flat(2).flat(3).end(), "010", 1, 0, 2);
        damage("two in a unit", row(4, 2).flat(1).flat(1).restart(0).flat(3).flat(1).end(), "0000", 1, 2, 3, 4);
        damage("interval beyond", row(3, 3).flat(1).flat(1).flat(1).end(), "000", 1, 2, 3);
    }

    private static void goingOn() {
        damage("next interval", row(4, 1).flat(1).restart(0).bits(255, 8).restart(1).flat(3).restart(2).flat(4).end(), "0100", 1, 0, 3, 4);
        damage("next but one", row(4, 1).flat(1).restart(0).bits(255, 8).restart(2).flat(4).end(), "0110", 1, 0, 0, 4);
        damage("a number that comes no more", row(4, 1).flat(1).restart(0).bits(255, 8).restart(0).flat(4).end(), "0111", 1, 0, 0, 0);
        damage("within an interval", row(6, 3).flat(1).bits(255, 8).flat(9).restart(0).flat(4).flat(0).flat(1).end(), "011000", 1, 0, 0, 4, 4, 5);
        damage("differences begin anew", row(3, 2).flat(7).bits(255, 8).restart(0).flat(4).end(), "010", 7, 0, 4);
        damage("another marker first", row(3, 1).bits(255, 8).fill().put(255, 254, 0, 6, 255, 208, 4, 4).end(), "111", 0, 0, 0);
        damage("255 255 first", row(3, 1).bits(255, 8).fill().put(255).restart(0).end(), "111", 0, 0, 0);
        damage("255 0 is passed", row(3, 1).bits(255, 8).bits(255, 8).bits(255, 8).restart(0).flat(4).restart(1).flat(5).end(), "100", 0, 4, 5);
        damage("without an interval", row(3, 0).bits(255, 8).restart(0).flat(4).flat(5).end(), "111", 0, 0, 0);
        Stream more = Stream.begin().interval(1).frame(192, 64, 16).scan(1, 0, 63, 0, 0).flat(1).restart(0).bits(255, 8);
        DctFilter x = more.restart(0).flat(50).restart(1).flat(51).end().given();
        CHECK.same("read", x.read(), 16);
        CHECK.same("unit 1 is followed by 9", x.coefficient(9, 0), 50);
        CHECK.same("and 10", x.coefficient(10, 0), 51);
        CHECK.same("9 is whole", x.told(9, 3), 0);
        CHECK.same("8 is not", x.told(8, 3), 1);
        CHECK.same("damaged", x.told(-1, 5), 8 + 5);
    }

    private static void unitsOfThreeBands() {
        Stream stream = Stream.begin().interval(1).frameOfThree(192, 32, 8, 33, 17, 17).scanOfThree(0, 63, 0, 0);
        stream.flat(1).flat(1).flat(3).bits(255, 8).restart(0).flat(5).flat(5).flat(5).flat(5).end();
        DctFilter x = stream.given();
        CHECK.same("read", x.read(), 8);
        int[] damaged = {1, 1, 0, 0, 1, 0, 1, 0};
        int[] first = {1, 2, 5, 10, 3, 5, 0, 5};
        for (int i = 0; i < 8; i++) {
            CHECK.same("damage of " + i, x.told(i, 3), damaged[i]);
            CHECK.same("first of " + i, x.coefficient(i, 0), first[i]);
        }
    }

    private static void damageStays() {
        Stream stream = row(2, 0).flat(5).fill().scan(1, 0, 63, 0, 0).flat(1).flat(1).end();
        damage("in a later scan", stream, "01", 1, 2);
        DctFilter x = stream.given();
        x.read();
        CHECK.same("scans", x.told(-1, 4), 2);
        row(2, 0).flat(5).flat(5).end().giveTo(x);
        x.read();
        CHECK.same("not in a later reading", x.told(-1, 5), 0);
    }

    private static void behindTheScan() {
        damage("all up to the next marker", row(1, 0).flat(5).fill().put(1, 2, 255, 0, 3, 255, 208, 255, 215, 4).end(), "0", 5);
        DctFilter x = row(1, 0).flat(5).fill().put(9, 9).put(255, 219, 0, 2).scan(1, 0, 63, 0, 0).flat(6).end().given();
        CHECK.same("read", x.read(), 8);
        CHECK.same("scans", x.told(-1, 4), 2);
        CHECK.same("first", x.coefficient(0, 0), 6);
    }
}
