/** Promises 7 and 8: rounds and meeting, and the rounds of the terms. */
public final class RoundsTest extends Promise {
    private static final int BOTH = 18980;

    public static void main(String[] args) {
        RoundsTest test = new RoundsTest();
        test.roundOf365();
        test.roundOf260();
        test.bothPlaces();
        test.roundsLimit();
        test.latestDay();
        test.everyMeeting();
        test.neverMeeting();
        test.meetingsBeforeTheRange();
        test.placeLimit();
        test.otherLimit();
        test.meetingsDayLimit();
        test.check.end();
    }

    private void roundOf365() {
        check.says("The day's place in the round of 365 is (d + 1137490) mod 365");
        check.due("place of 0", books.next().rounds(0) % 1000, 150);
        check.due("place of -150", books.next().rounds(-150) % 1000, 0);
        check.due("place of -151", books.next().rounds(-151) % 1000, 364);
        check.due("place of 214", books.next().rounds(214) % 1000, 364);
        check.due("place of 215", books.next().rounds(215) % 1000, 0);
        check.due("place of -1137490", books.next().rounds(-1137490) % 1000, 0);
        check.due("place of -1137491", books.next().rounds(-1137491) % 1000, 364);
    }

    private void roundOf260() {
        check.says("in that of 260 it is (d + 1137302) mod 260");
        check.due("place of 0", books.next().rounds(0) / 1000, 62);
        check.due("place of -62", books.next().rounds(-62) / 1000, 0);
        check.due("place of -63", books.next().rounds(-63) / 1000, 259);
        check.due("place of 197", books.next().rounds(197) / 1000, 259);
        check.due("place of 198", books.next().rounds(198) / 1000, 0);
        check.due("place of -1137302", books.next().rounds(-1137302) / 1000, 0);
        check.due("place of -1137303", books.next().rounds(-1137303) / 1000, 259);
    }

    private void bothPlaces() {
        check.says("The place of d in the round of 365 plus 1000 times that in the round of 260");
        rounds(0, 62150);
        rounds(-1137490, 72000);
        rounds(-1137302, 188);
        rounds(-1137303, 259187);
        for (int d = -LAST_DAY; d <= LAST_DAY; d += 12347) {
            rounds(d, place365(d) + 1000 * place260(d));
        }
    }

    private void roundsLimit() {
        check.says("NONE if d is not in the range");
        rounds(-LAST_DAY, place365(-LAST_DAY) + 1000 * place260(-LAST_DAY));
        rounds(LAST_DAY, place365(LAST_DAY) + 1000 * place260(LAST_DAY));
        for (int d : OUT) {
            check.unchanged("rounds(" + d + ")", NONE, States.all(), book -> book.rounds(d));
        }
    }

    private void latestDay() {
        check.says("The latest day, not after d, with these places in both rounds");
        meeting(150, 62, 0, 0);
        meeting(150, 62, 1, 0);
        meeting(150, 62, BOTH - 1, 0);
        meeting(150, 62, BOTH, BOTH);
        meeting(150, 62, -1, -BOTH);
    }

    /** At days where all meetings are in the range, and at days where only some of them are. */
    private void everyMeeting() {
        check.says("The latest day, not after d, with these places in both rounds: all places");
        everyMeeting(0);
        everyMeeting(739934);
        everyMeeting(LAST_DAY);
        everyMeeting(-LAST_DAY + BOTH - 1);
        everyMeeting(-LAST_DAY + BOTH - 2);
        everyMeeting(-LAST_DAY + 365);
        everyMeeting(-LAST_DAY);
    }

    private void neverMeeting() {
        check.says("NONE if there is no such day in the range: places that no day has");
        for (int other : new int[] {61, 63, 64, 65, 66}) {
            noMeeting(150, other, 739934);
        }
        meeting(150, 67, 0, -17155);
        noMeeting(0, 3, 0);
        noMeeting(364, 0, LAST_DAY);
    }

    private void meetingsBeforeTheRange() {
        check.says("NONE if there is no such day in the range: a day before it");
        int first = -LAST_DAY;
        meeting(place365(first), place260(first), first, first);
        meeting(place365(first), place260(first), first + BOTH - 1, first);
        noMeeting(place365(first - 1), place260(first - 1), first);
        noMeeting(place365(first - 1), place260(first - 1), first + BOTH - 2);
        meeting(place365(first - 1), place260(first - 1), first + BOTH - 1, first + BOTH - 1);
        noMeeting(place365(first + 1), place260(first + 1), first);
        meeting(place365(first + 1), place260(first + 1), first + 1, first + 1);
    }

    private void placeLimit() {
        check.says("NONE if .. a place is not in its round: that of 365");
        meeting(0, 172, -150, -150);
        meeting(364, 171, -151, -151);
        for (int wrong : new int[] {-1, 365, -365, 729, MIN, MAX}) {
            for (int other = 0; other < 260; other += 37) {
                noMeeting(wrong, other, 739934);
            }
        }
        noMeeting(365, 172, -150);
        noMeeting(-1, 171, -151);
        noMeeting(150 + 365, 62, 0);
        noMeeting(150 - 365, 62, 0);
    }

    private void otherLimit() {
        check.says("NONE if .. a place is not in its round: that of 260");
        meeting(88, 0, -62, -62);
        meeting(87, 259, -63, -63);
        noMeeting(88, 260, -62);
        noMeeting(87, -1, -63);
        for (int wrong : new int[] {62 + 260, 62 - 260, MIN, MAX}) {
            noMeeting(150, wrong, 0);
        }
    }

    private void meetingsDayLimit() {
        check.says("NONE if .. d is not in the range");
        meeting(place365(LAST_DAY), place260(LAST_DAY), LAST_DAY, LAST_DAY);
        meeting(place365(-LAST_DAY), place260(-LAST_DAY), -LAST_DAY, -LAST_DAY);
        for (int d : OUT) {
            noMeeting(150, 62, d);
            noMeeting(place365(LAST_DAY), place260(LAST_DAY), d);
            noMeeting(place365(d), place260(d), d);
        }
    }

    private void everyMeeting(int d) {
        int[] latest = new int[365 * 260];
        java.util.Arrays.fill(latest, NONE);
        for (int i = d; i > d - BOTH && i >= -LAST_DAY; i--) {
            latest[place365(i) * 260 + place260(i)] = i;
        }
        for (int place = 0; place < 365; place++) {
            for (int other = 0; other < 260; other++) {
                meeting(place, other, d, latest[place * 260 + other]);
            }
        }
    }

    private void rounds(int d, int want) {
        check.due("rounds(" + d + ")", books.next().rounds(d), want);
    }

    private void meeting(int place, int other, int d, int want) {
        check.due("meeting(" + place + ", " + other + ", " + d + ")", books.next().meeting(place, other, d), want);
    }

    private void noMeeting(int place, int other, int d) {
        check.unchanged("meeting(" + place + ", " + other + ", " + d + ")", NONE, States.all(),
            book -> book.meeting(place, other, d));
    }

    private static int place365(long d) {
        return (int) Model.mod(d + 1137490, 365);
    }

    private static int place260(long d) {
        return (int) Model.mod(d + 1137302, 260);
    }
}
