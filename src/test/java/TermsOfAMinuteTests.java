/**
 * A test for each sentence of the document's "Terms" that names a boundary case,
 * in the part A MINUTE. What is due was reckoned by hand; the
 * reckoning stands beside it where it is not plain.
 */
public final class TermsOfAMinuteTests extends Sentences {

    private TermsOfAMinuteTests() {
        super("terms of a minute");
    }

    public static void main(String[] args) {
        new TermsOfAMinuteTests().run();
    }

    private void run() {
        section("Terms: A MINUTE");
        setPointsOfAMinute();
        heatingAndCooling();
        moisteningAndDrying();
        losses();
        newValues();
        restsAndTallies();
        programOfAMinute();
        soaking();
        endOfSection("When a minute passes, the following steps happen one after the other.");
        finish();
    }

    private void setPointsOfAMinute() {
        test("If a program is in a ramp and is not held, its ramp clock increases by 1", x -> {
            program(x, 210, 390, 1, 1);
            dueValues(x, RAMP_CLOCK, 0, TEMPERATURE_POINT, 200, HUMIDITY_POINT, 400);
            x.pass(1);
            dueValues(x, RAMP_CLOCK, 1, TEMPERATURE_POINT, 210, HUMIDITY_POINT, 390);
            x.pass(1);
            dueValues(x, RAMP_CLOCK, 1, TEMPERATURE_POINT, 210, HUMIDITY_POINT, 390);
        });
        test("each set point becomes start + (target - start) * (ramp clock) / (ramp minutes)", x -> {
            program(x, 1800, 0, 500, 0);
            x.pass(1);
            // 1600 / 500 and 400 / 500
            dueValues(x, RAMP_CLOCK, 1, TEMPERATURE_POINT, 203, HUMIDITY_POINT, 400);
            x.pass(498);
            // 1600 * 499 / 500 = 1596.8 and 400 * 499 / 500 = 399.2
            dueValues(x, RAMP_CLOCK, 499, TEMPERATURE_POINT, 1796, HUMIDITY_POINT, 1);
            x.pass(1);
            dueValues(x, RAMP_CLOCK, 500, TEMPERATURE_POINT, 1800, HUMIDITY_POINT, 0, PHASE, DONE);
        });
        test("If a program is in a ramp and is not held", x -> {
            program(x, 210, 390, 1, 1);
            x.hold(true);
            x.pass(3);
            dueValues(x, RAMP_CLOCK, 0, TEMPERATURE_POINT, 200, HUMIDITY_POINT, 400);
            x.hold(false);
            x.pass(1);
            dueValues(x, RAMP_CLOCK, 1, TEMPERATURE_POINT, 210, HUMIDITY_POINT, 390);
        });
        test("If a program is in a soak and is not held, the set points become the targets.", x -> {
            program(x, 210, 390, 0, 9);
            dueValues(x, TEMPERATURE_POINT, 200, HUMIDITY_POINT, 400);
            x.hold(true);
            x.pass(2);
            dueValues(x, TEMPERATURE_POINT, 200, HUMIDITY_POINT, 400);
            x.hold(false);
            x.pass(1);
            dueValues(x, TEMPERATURE_POINT, 210, HUMIDITY_POINT, 390);
        });
        test("Otherwise the set points stay.", x -> {
            x.addSegment(300, 500, 2, 1);
            points(x, 215, 415);
            dueValues(x, TEMPERATURE_POINT, 215, HUMIDITY_POINT, 415);
            x.start();
            x.pass(1);
            x.stop();
            int temperaturePoint = x.value(TEMPERATURE_POINT);
            int humidityPoint = x.value(HUMIDITY_POINT);
            x.pass(2);
            dueValues(x, TEMPERATURE_POINT, temperaturePoint, HUMIDITY_POINT, humidityPoint);
        });
    }

    private void heatingAndCooling() {
        test("if the door is open, the output is 0", x -> {
            x.door(true);
            points(x, 300, 400);
            points(x, 100, 400);
            dueValues(x, TEMPERATURE, 200, HEATER, 0, COOLER, 0, ENERGY, 0, HEATER_REST, 1000);
            x.door(false);
            due(185, x.pass(1));
        });
        test("If the output is greater than 0 and the cooler rest is less than the rest", x -> {
            calm(x);
            x.set(8, 2);
            points(x, 185, 400);
            x.setPoints(205, 400);
            due(185, x.pass(1));
            dueValues(x, COOLER_REST, 1, BLOCKED, 1, HEATER, 0);
            due(185, x.pass(1));
            dueValues(x, COOLER_REST, 2, BLOCKED, 2, HEATER, 0);
            due(205, x.pass(1));
            dueValues(x, COOLER_REST, 3, BLOCKED, 2, HEATER, 1);
        });
        test("if the output is less than 0 and the heater rest is less than the rest", x -> {
            calm(x);
            x.set(8, 2);
            points(x, 220, 400);
            x.setPoints(205, 400);
            due(220, x.pass(1));
            dueValues(x, HEATER_REST, 1, BLOCKED, 1, COOLER, 0);
            due(220, x.pass(1));
            dueValues(x, HEATER_REST, 2, BLOCKED, 2, COOLER, 0);
            due(205, x.pass(1));
            dueValues(x, HEATER_REST, 3, BLOCKED, 2, COOLER, 1);
        });
        test("the output becomes 0, and the blocked minutes increase by 1", x -> {
            calm(x);
            x.set(8, 30);
            points(x, 220, 400);
            // an output of 0 is not blocked, nor is heating by the heater's own rest
            x.pass(1);
            dueValues(x, BLOCKED, 0);
            points(x, 240, 400);
            dueValues(x, BLOCKED, 0, TEMPERATURE, 240, HEATER, 2);
            // error -3, the least that is answered by an output
            points(x, 237, 400);
            dueValues(x, BLOCKED, 1, TEMPERATURE, 240, ENERGY, 40, COOLER_REST, 1000);
            points(x, 238, 400);
            dueValues(x, BLOCKED, 1);
        });
        test("If the output is greater than 0 and the cooler rest is less than the rest (setting 8), or"
            + " if the output is less than 0 and the heater rest is less than the rest", x -> {
            // an output of 1 is blocked, one of 0 is not
            calm(x);
            x.setMode(0, 1, 1, 0);
            points(x, 300, 400);
            x.set(8, 1);
            points(x, 102, 400);
            dueValues(x, TEMPERATURE, 201, BLOCKED, 0, HEATER_REST, 1);
            points(x, 301, 400);
            x.set(8, 30);
            points(x, 102, 400);
            dueValues(x, TEMPERATURE, 202, BLOCKED, 1, COOLER, 0);
            dueEntry(x, 0, 9, 2, 3);
        });
        test("If the output is greater than 0 and the cooler rest is less than the rest (setting 8), or"
            + " if the output is less than 0 and the heater rest is less than the rest", x -> {
            calm(x);
            x.setMode(0, 1, 1, 0);
            points(x, 100, 400);
            x.set(8, 30);
            points(x, 298, 400);
            dueValues(x, TEMPERATURE, 199, BLOCKED, 0, COOLER_REST, 1);
            points(x, 299, 400);
            dueValues(x, TEMPERATURE, 199, BLOCKED, 1, HEATER, 0);
            dueEntry(x, 0, 9, 1, 2);
        });
        test("The heater is on in this minute if the output is greater than 0", x -> {
            calm(x);
            x.setMode(0, 1, 1, 0);
            points(x, 299, 400);
            dueValues(x, HEATER, 0, HEATER_REST, 1000);
            points(x, 300, 400);
            dueValues(x, HEATER, 1, HEATER_REST, 0, TEMPERATURE, 201, COOLER, 0);
        });
        test("the cooler is on if it is less than 0", x -> {
            calm(x);
            x.setMode(0, 1, 1, 0);
            points(x, 101, 400);
            dueValues(x, COOLER, 0, COOLER_REST, 1000);
            points(x, 100, 400);
            dueValues(x, COOLER, 1, COOLER_REST, 0, TEMPERATURE, 199, HEATER, 0);
        });
    }

    private void moisteningAndDrying() {
        test("The coupled change is -output * coupling / 10.", x -> {
            // the band of the humidity holds an error of 1 back
            dueWith(0, 3, 300, 400, 203, 400);
            dueWith(0, 4, 300, 400, 204, 399);
            dueWith(1, 3, 100, 400, 197, 400);
            dueWith(1, 4, 100, 400, 196, 401);
        });
        test("The coupled change is -output * coupling / 10.", x -> {
            x.set(4, 0);
            x.setMode(1, 0, 50, 50);
            points(x, 220, 400);
            dueValues(x, HUMIDITY, 394);
            // an output that is blocked has no coupled change
            points(x, 100, 400);
            dueValues(x, HUMIDITY, 394, BLOCKED, 1);
        });
        test("the error (set point - humidity - coupled change)", x -> {
            // coupled -6: the error is 2 more than the humidity's way, and then 3
            points(x, 300, 396);
            dueValues(x, HUMIDITY, 394, HUMIDIFIER, 0);
            ClimateChamber y = new ClimateChamber();
            points(y, 300, 397);
            dueValues(y, HUMIDITY, 397, HUMIDIFIER, 1);
        });
        test("if the door is open, it is 0", x -> {
            x.door(true);
            points(x, 200, 500);
            points(x, 200, 300);
            dueValues(x, HUMIDITY, 400, HUMIDIFIER, 0, DRYER, 0, ENERGY, 0);
            x.door(false);
            x.pass(1);
            dueValues(x, HUMIDITY, 390, DRYER, 1);
        });
        test("The humidifier is on if it is greater than 0, and the dryer is on if it is less.", x -> {
            calm(x);
            x.setMode(1, 1, 1, 0);
            points(x, 200, 499);
            points(x, 200, 301);
            dueValues(x, HUMIDIFIER, 0, DRYER, 0, HUMIDITY, 400);
            points(x, 200, 500);
            dueValues(x, HUMIDIFIER, 1, DRYER, 0, HUMIDITY, 401);
            points(x, 200, 301);
            dueValues(x, HUMIDIFIER, 1, DRYER, 1, HUMIDITY, 400);
        });
    }

    private void dueLoss(int loss, boolean open, int temperature, int humidity) {
        ClimateChamber x = withSetting(4, loss);
        x.set(9, 500);
        x.set(10, 1000);
        if (open) {
            x.door(true);
        }
        x.pass(1);
        dueValues(x, TEMPERATURE, temperature, HUMIDITY, humidity);
    }

    private void losses() {
        test("Let the leak be the loss, plus 25 if the door is open.", x -> {
            // of 300 and 600: 0, 25, 20 and 45 hundredths
            dueLoss(0, false, 200, 400);
            dueLoss(0, true, 275, 550);
            dueLoss(20, false, 260, 520);
            dueLoss(20, true, 335, 670);
        });
        test("The lost temperature is (ambient temperature - temperature) * leak / 100", x -> {
            x.set(4, 1);
            x.set(9, 299);
            due(200, x.pass(1));
            x.set(9, 101);
            due(200, x.pass(1));
            x.set(9, 300);
            due(201, x.pass(1));
            x.set(9, 101);
            due(200, x.pass(1));
        });
        test("the lost humidity is (ambient humidity - humidity) * leak / 100", x -> {
            x.set(4, 1);
            x.set(10, 499);
            x.pass(1);
            x.set(10, 301);
            x.pass(1);
            dueValues(x, HUMIDITY, 400);
            x.set(10, 500);
            x.pass(1);
            dueValues(x, HUMIDITY, 401);
            x.set(10, 301);
            x.pass(1);
            dueValues(x, HUMIDITY, 400);
        });
    }

    private void newValues() {
        test("is limited to -700 to 2000", x -> {
            // no run of calls comes nearer to 2000: 1799 and the greatest power
            calm(x);
            x.set(0, 50);
            x.setPoints(1800, 400);
            due(1750, x.pass(31));
            x.set(0, 49);
            due(1799, x.pass(1));
            x.set(0, 50);
            x.setMode(0, 2, 50, 0);
            due(1849, x.pass(1));
        });
        test("is limited to -700 to 2000", x -> {
            // no run of calls comes nearer to -700: -399 and the greatest power
            calm(x);
            x.set(1, 50);
            x.setPoints(-400, 400);
            due(-350, x.pass(11));
            x.set(1, 49);
            due(-399, x.pass(1));
            x.set(1, 50);
            x.setMode(0, 2, 50, 0);
            due(-449, x.pass(1));
        });
        test("is limited to 0 to 1000", x -> {
            calm(x);
            x.set(2, 50);
            x.setPoints(200, 1000);
            x.pass(11);
            x.set(2, 49);
            x.pass(1);
            dueValues(x, HUMIDITY, 999);
            x.undo();
            x.undo();
            x.pass(1);
            dueValues(x, HUMIDITY, 1000);
            x.undo();
            x.set(2, 49);
            x.pass(1);
            x.set(2, 50);
            x.setMode(1, 2, 50, 0);
            // 999 + 50
            x.pass(1);
            dueValues(x, HUMIDITY, 1000, ENERGY, 11 * 50 + 49 + 50);
        });
        test("is limited to 0 to 1000", x -> {
            calm(x);
            x.set(3, 50);
            x.setPoints(200, 0);
            x.pass(7);
            x.set(3, 49);
            x.pass(1);
            dueValues(x, HUMIDITY, 1);
            x.undo();
            x.undo();
            x.pass(1);
            dueValues(x, HUMIDITY, 0);
            x.undo();
            x.set(3, 49);
            x.pass(1);
            x.set(3, 50);
            x.setMode(1, 2, 50, 0);
            // 1 - 50
            x.pass(1);
            dueValues(x, HUMIDITY, 0, ENERGY, 7 * 50 + 49 + 50);
        });
    }

    private void restsAndTallies() {
        test("The heater rest becomes 0 if the heater is on, and increases by 1 otherwise,"
            + " but is at most 1000", x -> {
            calm(x);
            points(x, 220, 400);
            dueValues(x, HEATER_REST, 0);
            x.pass(1);
            dueValues(x, HEATER_REST, 1);
            x.pass(500);
            x.pass(498);
            dueValues(x, HEATER_REST, 999);
            x.pass(1);
            dueValues(x, HEATER_REST, 1000);
            x.pass(1);
            dueValues(x, HEATER_REST, 1000, COOLER_REST, 1000);
        });
        test("the cooler rest likewise", x -> {
            calm(x);
            points(x, 185, 400);
            dueValues(x, COOLER_REST, 0);
            x.pass(1);
            dueValues(x, COOLER_REST, 1);
            x.pass(500);
            x.pass(498);
            dueValues(x, COOLER_REST, 999);
            x.pass(1);
            dueValues(x, COOLER_REST, 1000);
            x.pass(1);
            dueValues(x, COOLER_REST, 1000, HEATER_REST, 1000);
        });
        test("Both rests are 1000 at first.", x -> {
            dueValues(x, HEATER_REST, 1000, COOLER_REST, 1000);
            x.pass(1);
            dueValues(x, HEATER_REST, 1000, COOLER_REST, 1000);
        });
        test("The minutes of the heater, the cooler, the humidifier and the dryer increase by 1 if they"
            + " are on.", x -> {
            calm(x);
            x.pass(1);
            dueValues(x, HEATER, 0, COOLER, 0, HUMIDIFIER, 0, DRYER, 0);
            points(x, 210, 410);
            dueValues(x, HEATER, 1, COOLER, 0, HUMIDIFIER, 1, DRYER, 0);
            points(x, 200, 400);
            dueValues(x, HEATER, 1, COOLER, 1, HUMIDIFIER, 1, DRYER, 1);
        });
        test("The energy increases by the absolute value of the output plus the absolute value of the"
            + " moisture output.", x -> {
            calm(x);
            x.pass(1);
            dueValues(x, ENERGY, 0);
            points(x, 204, 407);
            dueValues(x, ENERGY, 11);
            points(x, 200, 400);
            dueValues(x, ENERGY, 22);
            points(x, 205, 395);
            dueValues(x, ENERGY, 32);
        });
        test("the history, which keeps those of the latest 60 minutes", x -> {
            due(NONE, x.history(0));
            x.set(0, 1);
            x.set(4, 0);
            x.setPoints(300, 400);
            x.pass(1);
            due(201, x.history(0));
            due(NONE, x.history(1));
            x.pass(58);
            due(201, x.history(58));
            due(NONE, x.history(59));
            x.pass(1);
            due(201, x.history(59));
            due(NONE, x.history(60));
            x.pass(1);
            due(261, x.history(0));
            due(202, x.history(59));
            due(NONE, x.history(60));
        });
    }

    private void programOfAMinute() {
        test("Program, if one is in a ramp or a soak and is not held.", x -> {
            program(x, 200, 400, 1, 1);
            x.hold(true);
            x.pass(2);
            dueValues(x, PHASE, RAMP, RAMP_CLOCK, 0);
            x.hold(false);
            x.pass(1);
            dueValues(x, PHASE, SOAK, SOAK_CLOCK, 0);
            x.hold(true);
            x.pass(2);
            dueValues(x, PHASE, SOAK, SOAK_CLOCK, 0, PAUSED, 0);
            x.hold(false);
            x.pass(1);
            dueValues(x, PHASE, DONE, SOAK_CLOCK, 1);
            x.pass(1);
            dueValues(x, PHASE, DONE, SOAK_CLOCK, 1);
        });
        test("Program, if one is in a ramp or a soak and is not held.", x -> {
            // held, it does not pause, and so it does not fail
            x.set(11, 0);
            program(x, 1000, 400, 0, 1);
            x.hold(true);
            x.pass(5);
            dueValues(x, PHASE, SOAK, PAUSED, 0);
            x.hold(false);
            x.pass(1);
            dueValues(x, PHASE, FAILED, PAUSED, 1);
        });
        test("if the ramp clock is equal to the ramp minutes, the soak begins", x -> {
            program(x, 200, 400, 3, 1);
            x.pass(2);
            dueValues(x, PHASE, RAMP, RAMP_CLOCK, 2);
            x.pass(1);
            dueValues(x, PHASE, SOAK, RAMP_CLOCK, 3);
        });
        test("if the ramp clock is equal to the ramp minutes, the soak begins", x -> {
            program(x, 200, 400, 1, 1);
            x.pass(1);
            dueValues(x, PHASE, SOAK, RAMP_CLOCK, 1);
        });
        test("if the soak minutes are 0, the segment is complete", x -> {
            program(x, 1000, 900, 2, 0, 200, 400, 0, 1);
            x.pass(1);
            dueValues(x, PHASE, RAMP, SEGMENT, 0);
            // complete however far the values are from the set points
            x.pass(1);
            dueValues(x, PHASE, SOAK, SEGMENT, 1, SOAK_CLOCK, 0, PAUSED, 0);
            dueResult(x, 0, 0, 1, 2, 0);
        });
        test("if the soak minutes are 0, the segment is complete", x -> {
            program(x, 200, 400, 2, 1);
            x.pass(2);
            dueValues(x, PHASE, SOAK, SEGMENT, 0);
        });
        test("The time increases by 1.", x -> {
            x.pass(1);
            dueValues(x, TIME, 1);
            program(x, 200, 400, 1, 1);
            x.hold(true);
            x.pass(1);
            x.door(true);
            x.pass(1);
            dueValues(x, TIME, 3);
            x.pass(500);
            dueValues(x, TIME, 503);
        });
    }

    /** The phase behind one minute of a soak whose chamber can neither heat nor moisten for it. */
    private void dueStillSoak(int temperature, int humidity, int phase) {
        ClimateChamber x = new ClimateChamber();
        x.setMode(0, 0, 50, 50);
        x.setMode(1, 0, 50, 50);
        program(x, temperature, humidity, 0, 1);
        x.pass(1);
        dueValues(x, PHASE, phase, SOAK_CLOCK, phase == DONE ? 1 : 0, PAUSED, phase == DONE ? 0 : 1);
    }

    private void soaking() {
        test("not in the minute in which it begins behind a ramp", x -> {
            program(x, 200, 400, 1, 1);
            x.pass(1);
            dueValues(x, PHASE, SOAK, SOAK_CLOCK, 0, PAUSED, 0);
            x.pass(1);
            dueValues(x, PHASE, DONE, SOAK_CLOCK, 1, PAUSED, 0);
        });
        test("not in the minute in which it begins behind a ramp", x -> {
            x.set(11, 0);
            program(x, 1000, 400, 1, 1);
            x.pass(1);
            dueValues(x, PHASE, SOAK, SOAK_CLOCK, 0, PAUSED, 0);
            x.pass(1);
            dueValues(x, PHASE, FAILED, SOAK_CLOCK, 0, PAUSED, 1);
        });
        test("not in the minute in which it begins behind a ramp", x -> {
            // without a ramp, its first minute counts
            program(x, 200, 400, 0, 1);
            x.pass(1);
            dueValues(x, PHASE, DONE, SOAK_CLOCK, 1);
        });
        test("the absolute value of set point - value is at most the tolerance", x -> {
            dueStillSoak(205, 400, DONE);
            dueStillSoak(206, 400, SOAK);
            dueStillSoak(195, 400, DONE);
            dueStillSoak(194, 400, SOAK);
            dueStillSoak(200, 420, DONE);
            dueStillSoak(200, 421, SOAK);
            dueStillSoak(200, 380, DONE);
            dueStillSoak(200, 379, SOAK);
        });
        test("if both channels are within tolerance", x -> {
            dueStillSoak(205, 420, DONE);
            dueStillSoak(206, 420, SOAK);
            dueStillSoak(205, 421, SOAK);
            dueStillSoak(206, 421, SOAK);
        });
        test("with the new values", x -> {
            program(x, 220, 400, 0, 1);
            x.pass(1);
            dueValues(x, TEMPERATURE, 220, PHASE, DONE, PAUSED, 0);
        });
        test("with the new values", x -> {
            x.set(9, 500);
            program(x, 200, 400, 0, 1);
            x.pass(1);
            // 300 * 2 / 100 more
            dueValues(x, TEMPERATURE, 206, PHASE, SOAK, PAUSED, 1);
        });
        test("the soak clock increases by 1, and otherwise the paused minutes increase by 1", x -> {
            program(x, 240, 400, 0, 9);
            x.pass(1);
            dueValues(x, SOAK_CLOCK, 0, PAUSED, 1);
            x.pass(1);
            dueValues(x, SOAK_CLOCK, 1, PAUSED, 1);
        });
        test("the soak clock increases by 1, and otherwise the paused minutes increase by 1", x -> {
            // neither of them goes back: in, out and in again
            x.set(4, 0);
            program(x, 200, 400, 0, 3);
            x.pass(1);
            x.set(9, 500);
            x.set(4, 2);
            x.pass(1);
            // 300 * 2 / 100 more, which is beyond the tolerance
            dueValues(x, TEMPERATURE, 206, SOAK_CLOCK, 1, PAUSED, 1);
            x.set(4, 0);
            x.pass(1);
            dueValues(x, TEMPERATURE, 200, SOAK_CLOCK, 2, PAUSED, 1);
            x.pass(1);
            dueResult(x, 0, 0, 1, 4, 1);
        });
        test("the segment is complete if the soak clock is equal to the soak minutes", x -> {
            program(x, 200, 400, 0, 1, 200, 400, 0, 500, 200, 400, 0, 1);
            x.pass(1);
            dueValues(x, SEGMENT, 1, SOAK_CLOCK, 0);
            x.pass(499);
            dueValues(x, SEGMENT, 1, SOAK_CLOCK, 499);
            x.pass(1);
            dueValues(x, SEGMENT, 2, SOAK_CLOCK, 0);
        });
        test("if the paused minutes are greater than the patience, the program fails", x -> {
            x.set(11, 2);
            program(x, 1000, 400, 0, 1);
            x.pass(2);
            dueValues(x, PHASE, SOAK, PAUSED, 2);
            x.pass(1);
            dueValues(x, PHASE, FAILED, PAUSED, 3);
        });
        test("otherwise, if the paused minutes are greater than the patience", x -> {
            program(x, 240, 400, 0, 1);
            x.pass(1);
            x.set(11, 0);
            // in its last soak minute it is complete, paused or not
            x.pass(1);
            dueValues(x, PHASE, DONE, PAUSED, 1);
        });
        test("otherwise, if the paused minutes are greater than the patience", x -> {
            program(x, 240, 400, 0, 2);
            x.pass(1);
            x.set(11, 0);
            // in another soak minute it fails, though it did not pause in this one
            x.pass(1);
            dueValues(x, PHASE, FAILED, PAUSED, 1, SOAK_CLOCK, 1);
        });
    }
}
