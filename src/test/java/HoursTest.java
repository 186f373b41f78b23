/** Promises 9 to 15: HOURS, setting out, turning back, A DAY, undone. */
public final class HoursTest {
    public static void main(String[] args) {
        hours();
        hourByHour();
        capOfBuilt();
        starts();
        backs();
        waits();
        slips();
        dayWrong();
        dayEverySign();
        dayDone();
        dayLimit();
        undo();
        undoKeepsTwelve();
        forgotten();
        Run.finish();
    }

    private static void hours() {
        Run r = new Run("9 hours");
        r.due("hours(0)", 7).row(0, 0).due("count(10)", 0).due("hours(60)", 7).due("count(3)", 60);
        r.still("hours(61)", -1).still("hours(-1)", -1).text("9;9;4").due("climbers()", 3);
        r.due("starts(0)", 1).due("starts(1)", 2).due("starts(2)", 3);
        // 0 and 1 go 3, 5, 2, 0; 2 goes 2, 4, 5, 3, 1, 0.
        r.due("hours(3)", 7).row(0, 3).due("hours(1)", 1).row(2, 1).due("count(4)", 2).due("climber(0, 4)", 0);
        r.due("climber(1, 4)", 1).due("hours(2)", 2).row(1, 0).due("climber(1, 4)", 2).due("climber(2, 4)", 1);
        r.due("count(3)", 66).due("count(4)", 3).due("hours(0)", 2).row(0, 0).due("count(10)", 6);
    }

    private static void hourByHour() {
        Run r = new Run("9 as all is ahead of it");
        r.text("0;0").due("climbers()", 2).text("k+1").due("rule()", 0);
        r.due("starts(0)", 1).due("starts(1)", 2).due("hours(1)", 7).due("climber(0, 1)", 2).due("climber(1, 1)", 2);
        Run w = new Run("9 who waits");
        w.text("9;9;9").due("climbers()", 3).due("starts(0)", 1).due("waits(0, 2)", 2).due("waits(1, 1)", 1);
        w.due("hours(1)", 7).due("climber(0, 1)", 0).due("climber(0, 3)", 1).due("climber(1, 3)", 0);
        w.due("hours(1)", 7).due("climber(0, 1)", 0).due("climber(0, 3)", 0).due("climber(1, 3)", 0);
        w.due("hours(1)", 7).due("climber(0, 1)", 3);
        Run u = new Run("9 who waits at TOP turns");
        u.text("9").due("climbers()", 1).due("starts(0)", 1).due("hours(1)", 7).due("waits(0, 9)", 9);
        u.due("top(3)", 15).due("hours(1)", 7).due("climber(0, 2)", 2).due("climber(0, 1)", 3);
    }

    private static void capOfBuilt() {
        Run r = new Run("9 BUILT to 999");
        r.text("9").due("climbers()", 1).due("starts(0)", 1).due("backs(0)", 2);
        for (int i = 1; i <= 17; i++) {
            r.due("hours(60)", 0).due("climber(0, 4)", Math.min(999, 60 * i));
        }
        r.due("count(7)", 999).due("high(0, 5)", 0).row(0, 999).due("stones(999)", 1).row(1, 1);
    }

    private static void starts() {
        Run r = new Run("10 starts");
        r.still("starts(0)", -1).text("1;2").due("climbers()", 2).still("starts(2)", -1).still("starts(-1)", -1);
        r.due("starts(1)", 1).due("climber(1, 2)", 1).still("starts(1)", -2).due("starts(0)", 2).due("count(5)", 3);
    }

    private static void backs() {
        Run r = new Run("11 backs");
        r.still("backs(0)", -1).text("1;9").due("climbers()", 2).still("backs(0)", -2).still("backs(2)", -1);
        r.due("starts(1)", 1).due("backs(1)", 2).due("backs(1)", 1).due("hours(2)", 7).due("climber(1, 2)", 2);
        r.due("backs(1)", 1).due("climber(1, 1)", 5).due("hours(1)", 7).due("climber(1, 1)", 5).due("climber(1, 2)", 2);
        r.due("starts(0)", 2).due("backs(0)", 2).due("hours(1)", 0).row(1, 1);
    }

    private static void waits() {
        Run r = new Run("12 waits");
        r.still("waits(0, 1)", -1).text("1;2").due("climbers()", 2).still("waits(0, 0)", -1).still("waits(0, 10)", -1);
        r.still("waits(2, 1)", -1).still("waits(-1, 1)", -1).due("waits(0, 9)", 9).due("waits(0, 1)", 10);
        for (int i = 1; i <= 9; i++) {
            r.due("waits(0, 9)", 10 + 9 * i);
        }
        r.due("waits(0, 9)", 99).due("waits(0, 9)", 99).due("count(13)", 99).due("count(15)", 1).due("count(10)", 12);
        r.due("waits(1, 3)", 3).due("count(13)", 102).due("count(15)", 3);
    }

    private static void slips() {
        Run r = new Run("13 slips");
        r.still("slips(0, 1)", -1).text("9;9").due("climbers()", 2).still("slips(0, 1)", -2).still("slips(0, 0)", -1);
        r.still("slips(0, 10)", -1).still("slips(2, 1)", -1).due("starts(0)", 1).due("hours(1)", 7).due("slips(0, 1)", 2);
        r.due("climber(0, 2)", 2).due("waits(0, 9)", 9).due("slips(0, 9)", 0).due("climber(0, 2)", 2);
        r.due("hours(1)", 0).row(1, 0).due("climber(0, 3)", 8);
    }

    private static void dayWrong() {
        Run r = new Run("14 wrong signs");
        r.text("9;9").due("climbers()", 2).due("starts(0)", 1);
        String[] texts = {"x", "n", "nn", "n12", "s", "sx", "b0b", "w", "w0", "w00", "w0x", "w01x", "f1", "f10", "f111",
            "t", "tt", "s0 n1", ";", "n1;n1", "N1"};
        long[] due = {-1, -2, -2, -3, -2, -2, -4, -2, -3, -3, -3, -4, -3, -3, -4, -2, -2, -3, -1, -3, -1};
        for (int i = 0; i < texts.length; i++) {
            r.text(texts[i]).emptied("day()", due[i]);
        }
    }

    /** Each of the 256 signs, where an ACT begins and in each place inside one. */
    private static void dayEverySign() {
        String[] ahead = {"", "n", "s", "b", "w", "f", "t", "w0", "f0", "n1", "w01"};
        String begin = "nsbwft";
        String digit = "0123456789";
        String[] can = {begin, digit, digit, digit, digit, digit, digit, "123456789", "123456789", begin, begin};
        for (int c = 0; c < 256; c++) {
            Run r = new Run("14 sign " + c);
            for (int i = 0; i < ahead.length; i++) {
                int due = -1 - ahead[i].length() - (can[i].indexOf(c) >= 0 ? 1 : 0);
                r.text(ahead[i] + (char) c + (char) 161).due("day()", due);
            }
            r.asNew();
        }
    }

    private static void dayDone() {
        Run r = new Run("14 day");
        r.due("day()", 0).row(0, 0).due("count(10)", 0).text("9;9").due("climbers()", 2);
        r.text("s0n1w01f01t4b0").due("day()", 6).row(0, 1).due("climber(0, 1)", 2).due("climber(0, 2)", 1);
        r.due("climber(0, 3)", 1).due("count(1)", 4).due("count(10)", 1).due("count(12)", 0);
        r.text("n2s0n9").due("day()", 1).row(1, 3).due("climber(0, 1)", 4).due("count(10)", 2);
        r.text("s0n9").due("day()", 0).row(1, 3).due("count(10)", 2);
        r.text("s9").due("day()", 0).row(1, 3).text("t4").due("day()", 0).row(1, 3).text("t2").due("day()", 0).row(1, 3);
        r.text("t0").due("day()", 0).text("w21").due("day()", 0).text("f11").due("day()", 0).row(1, 3);
        r.text("n0").due("day()", 1).row(0, 3).due("count(10)", 3).due("undo()", 2).due("count(3)", 3);
        r.due("undo()", 1).due("count(3)", 1).due("climber(0, 1)", 2).due("undo()", 0).due("count(5)", 0);
        r.due("count(1)", 5).due("count(3)", 0).due("climber(0, 3)", 0);
    }

    private static void dayLimit() {
        Run r = new Run("14 60 signs");
        r.text("n1".repeat(30)).due("day()", 30).row(0, 30).due("undo()", 0);
        r.text("n1".repeat(30) + "n").emptied("day()", -61).text("n1".repeat(30) + "x").emptied("day()", -61);
        r.text("n1".repeat(29) + "w01").emptied("day()", -61).text("n1".repeat(29) + "w00").emptied("day()", -61);
        r.text("n1".repeat(29) + "w0").emptied("day()", -61).text("n1".repeat(29) + "w").emptied("day()", -60);
        r.text("n1".repeat(29) + "nx" + "zzz").emptied("day()", -60).text("n9".repeat(30)).due("day()", 30).row(0, 270);
    }

    private static void undo() {
        Run r = new Run("15 undo");
        r.still("undo()", -1).text("4;0;8").due("climbers()", 3).due("starts(0)", 1).due("hours(0)", 7);
        r.due("count(10)", 1).due("hours(6)", 0).due("climber(0, 4)", 1).due("count(4)", 1).due("waits(1, 4)", 4);
        r.due("top(2)", 15).due("sheet(2, 3, 3, 0)", 9).due("backs(0)", -2).due("slips(0, 1)", -2).due("count(10)", 4);
        r.due("rule()", 0).due("undo()", 3).due("count(1)", 5).due("count(14)", 9).due("undo()", 2).due("count(13)", 0);
        r.due("undo()", 1).due("count(2)", 7).due("count(3)", 0).due("count(4)", 0).due("count(7)", 0).due("count(5)", 1);
        r.due("climber(0, 2)", 1).due("later(6)", 7).due("undo()", 0).due("count(5)", 0).still("undo()", -1);
        r.due("starts(2)", 1).due("hours(1)", 7).due("slips(2, 1)", 0).due("backs(2)", 1).due("count(10)", 4);
        r.due("undo()", 3).due("climber(2, 2)", 2).due("undo()", 2).due("climber(2, 1)", 1).due("climber(2, 2)", 1);
    }

    private static void undoKeepsTwelve() {
        Run r = new Run("15 twelve");
        r.text("4").due("climbers()", 1);
        for (int i = 1; i <= 15; i++) {
            r.due("hours(1)", 7).due("count(10)", Math.min(12, i));
        }
        r.due("hours(61)", -1).due("starts(3)", -1).due("top(5)", -2).due("count(10)", 12);
        for (int i = 1; i <= 12; i++) {
            r.due("undo()", 12 - i).due("count(3)", 15 - i);
        }
        r.still("undo()", -1);
    }

    private static void forgotten() {
        Run r = new Run("15 forgotten");
        r.text("4").due("climbers()", 1).due("starts(0)", 1).due("climbers()", 0).due("count(10)", 1);
        r.text("x").due("climbers()", -1).due("count(10)", 1).due("again(0)", 0).due("count(10)", 1);
        r.due("keep(0)", 1).due("count(10)", 1).due("again(0)", 1).due("count(10)", 0).due("undo()", -1);
        r.due("hours(1)", 7).due("count(10)", 1).text("5").due("climbers()", 1).due("count(10)", 0).still("undo()", -1);
    }
}
