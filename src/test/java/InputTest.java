/** Promises 2 to 5: the input buffer and the reported error. */
public final class InputTest {
    public static void main(String[] args) {
        appendPutsTheHighByteFirst();
        appendStopsAt500();
        truncateKeepsTheFirstBytes();
        truncateRefusesOtherLengths();
        errorsAreReportedUntilTheNextText();
        Check.end();
    }

    private static void appendPutsTheHighByteFirst() {
        HonestScales x = new HonestScales();
        // "days 3;thumb 1 100;d" in five ints: each byte must stand at its place.
        Check.due("append", x.append(0x64617973, 0x20333b74, 0x68756d62, 0x20312031, 0x30303b64), 20);
        Check.due("append", x.append(0x61797320, 0x32303b20, 0x20202020, 0x20202020, 0x20202020), 40);
        Check.due("runScript", x.runScript(), 3);
        Check.due("day", x.day(), 23);
        Check.due("thumb", x.thumb(1), 100);
        Check.due("the buffer is empty again", x.append(0, 0, 0, 0, 0), 20);
        for (int place = 0; place < 20; place++) {
            bytesStandInOrder(place);
        }
    }

    private static void bytesStandInOrder(int place) {
        HonestScales x = new HonestScales();
        int[] spaces = {0x20202020, 0x20202020, 0x20202020, 0x20202020, 0x20202020};
        int shift = 24 - place % 4 * 8;
        spaces[place / 4] ^= (0x20 ^ 0xff) << shift;
        x.append(spaces[0], spaces[1], spaces[2], spaces[3], spaces[4]);
        Check.dueThrow("a byte 255 at " + place, Check.ARGUMENT, x::runScript);
        Check.due("errorPosition", x.errorPosition(), place);
    }

    private static void appendStopsAt500() {
        HonestScales x = new HonestScales();
        for (int i = 1; i <= 25; i++) {
            Check.due("append", x.append(0x20202020, 0x20202020, 0x20202020, 0x20202020, 0x20202020), 20 * i);
        }
        Check.dueThrow("append", Check.STATE, () -> x.append(1, 2, 3, 4, 5));
        Check.due("truncate", x.truncate(481), 481);
        Check.dueThrow("append", Check.STATE, () -> x.append(1, 2, 3, 4, 5));
        Check.due("truncate", x.truncate(480), 480);
        Check.due("append", x.append(0x20202020, 0x20202020, 0x20202020, 0x20202020, 0x20202064), 500);
        Check.dueThrow("append", Check.STATE, () -> x.append(1, 2, 3, 4, 5));
        Check.dueThrow("runScript", Check.ARGUMENT, x::runScript);
        Check.due("errorPosition", x.errorPosition(), 499);
        Check.due("append", x.append(1, 2, 3, 4, 5), 20);
    }

    private static void truncateKeepsTheFirstBytes() {
        HonestScales x = new HonestScales();
        Check.feed(x, "days 12; days 1; days 1;");
        Check.due("truncate", x.truncate(8), 8);
        Check.due("truncate", x.truncate(8), 8);
        Check.due("append behind it", x.append(0x64617973, 0x20333b20, 0x20202020, 0x20202020, 0x20202020), 28);
        Check.due("runScript", x.runScript(), 2);
        Check.due("day", x.day(), 15);
        Check.due("truncate", x.truncate(0), 0);
    }

    private static void truncateRefusesOtherLengths() {
        HonestScales x = new HonestScales();
        Check.dueThrow("truncate(1)", Check.ARGUMENT, () -> x.truncate(1));
        x.append(0, 0, 0, 0, 0);
        Check.dueThrow("truncate(21)", Check.ARGUMENT, () -> x.truncate(21));
        Check.dueThrow("truncate(-1)", Check.ARGUMENT, () -> x.truncate(-1));
        Check.dueThrow("truncate(max)", Check.ARGUMENT, () -> x.truncate(Integer.MAX_VALUE));
        Check.dueThrow("truncate(min)", Check.ARGUMENT, () -> x.truncate(Integer.MIN_VALUE));
        Check.due("truncate(20)", x.truncate(20), 20);
        Check.due("truncate(3)", x.truncate(3), 3);
        Check.dueThrow("truncate(4)", Check.ARGUMENT, () -> x.truncate(4));
    }

    private static void errorsAreReportedUntilTheNextText() {
        HonestScales x = new HonestScales();
        Check.due("errorCode of a new object", x.errorCode(), 0);
        Check.due("errorPosition of a new object", x.errorPosition(), HonestScales.NONE);
        Check.feed(x, "  days 101;");
        Check.due("errorCode before the call", x.errorCode(), 0);
        Check.dueThrow("runScript", Check.ARGUMENT, x::runScript);
        Check.due("errorCode", x.errorCode(), HonestScales.RANGE);
        Check.due("errorPosition", x.errorPosition(), 7);
        x.passDays(1);
        x.undo();
        x.saveSnapshot(0);
        x.restoreSnapshot(0);
        Check.due("errorCode stays", x.errorCode(), HonestScales.RANGE);
        Check.due("errorPosition stays", x.errorPosition(), 7);
        Check.due("runScript", x.runScript(), 0);
        Check.due("errorCode", x.errorCode(), 0);
        Check.due("errorPosition", x.errorPosition(), HonestScales.NONE);
        Check.dueThrow("loadSetup", Check.ARGUMENT, x::loadSetup);
        Check.due("errorCode", x.errorCode(), HonestScales.SYNTAX);
        Check.due("errorPosition", x.errorPosition(), 0);
        Check.feed(x, "bureau 0 0 0 1 1 0 0; weights 1; shop 0 500 50 5 1 0 0 0;");
        Check.due("loadSetup", x.loadSetup(), 1);
        Check.due("errorCode", x.errorCode(), 0);
        Check.due("errorPosition", x.errorPosition(), HonestScales.NONE);
    }
}
