/**
 * A test for each sentence of the document's "Terms" that names a boundary case,
 * in the parts UNITS, SETTINGS and CHAMBER. What is due was reckoned by hand; the
 * reckoning stands beside it where it is not plain.
 */
public final class TermsOfSettingsTests extends Sentences {

    private TermsOfSettingsTests() {
        super("terms of settings");
    }

    public static void main(String[] args) {
        new TermsOfSettingsTests().run();
    }

    private void run() {
        section("Terms: UNITS");
        units();
        endOfSection("Temperatures are in tenths of a degree");
        section("Terms: SETTINGS");
        settings();
        settingsAtTheirEdges();
        endOfSection();
        section("Terms: CHAMBER");
        chamber();
        demand();
        endOfSection();
        finish();
    }

    /** The phase behind one minute of a soak of a new chamber with a changed setting. */
    private void dueSoak(int index, int value, int power, int temperature, int humidity, int phase) {
        ClimateChamber x = withSetting(index, value);
        for (int i = 0; i < 4; i++) {
            x.set(i, power);
        }
        program(x, temperature, humidity, 0, 1);
        x.pass(1);
        dueValues(x, PHASE, phase, PAUSED, phase == DONE ? 0 : 1);
    }

    private void units() {
        test("every quotient is rounded toward zero", x -> {
            program(x, 203, 397, 2, 1);
            x.pass(1);
            // 200 + 3 / 2 and 400 - 3 / 2
            dueValues(x, TEMPERATURE_POINT, 201, HUMIDITY_POINT, 399);
        });
        test("every quotient is rounded toward zero", x -> {
            due(1, change(0, 1, 50, 0, 3));
            due(-1, change(0, 1, 50, 0, -3));
            due(1, change(1, 1, 50, 0, 3));
            due(-1, change(1, 1, 50, 0, -3));
        });
        test("every quotient is rounded toward zero", x -> {
            // 5 * 3 / 10 in either direction; the humidity's band holds an error of 1 back
            dueWith(0, 5, 300, 400, 205, 399);
            dueWith(1, 5, 100, 400, 195, 401);
        });
        test("every quotient is rounded toward zero", x -> {
            // 99 * 2 / 100 in either direction
            dueWith(9, 299, 200, 400, 201, 400);
            dueWith(9, 101, 200, 400, 199, 400);
            dueWith(10, 499, 200, 400, 200, 401);
            dueWith(10, 301, 200, 400, 200, 399);
        });
    }

    private void range(String words, int first, int least, int greatest) {
        int index = Integer.parseInt(words.substring(0, words.indexOf(':')));
        test(words, x -> {
            due(first, x.setting(index));
            due(first, x.set(index, least));
            due(least, x.setting(index));
            due(least, x.set(index, greatest));
            due(greatest, x.setting(index));
            refuse(ARGUMENT, IDLE_ONE, y -> y.set(index, least - 1), y -> y.set(index, greatest + 1),
                y -> y.set(index, MIN), y -> y.set(index, MAX));
        });
    }

    private void settings() {
        test("There are 12 settings", x -> {
            due(20, x.setting(0));
            due(60, x.setting(11));
            refuse(OUT, IDLE_ONE, y -> y.setting(-1), y -> y.setting(12), y -> y.set(-1, 1),
                y -> y.set(12, 1));
        });
        range("0: heater power (20; 1 to 50)", 20, 1, 50);
        range("1: cooler power (15; 1 to 50)", 15, 1, 50);
        range("2: humidifier power (10; 1 to 50)", 10, 1, 50);
        range("3: dryer power (10; 1 to 50)", 10, 1, 50);
        range("4: loss (2; 0 to 20)", 2, 0, 20);
        range("5: coupling (3; 0 to 20)", 3, 0, 20);
        range("6: temperature tolerance (5; 0 to 100)", 5, 0, 100);
        range("7: humidity tolerance (20; 0 to 200)", 20, 0, 200);
        range("8: rest (3; 0 to 30)", 3, 0, 30);
        range("9: ambient temperature (200; -200 to 500)", 200, -200, 500);
        range("10: ambient humidity (400; 0 to 1000)", 400, 0, 1000);
        range("11: patience (60; 0 to 1000)", 60, 0, 1000);
    }

    private void settingsAtTheirEdges() {
        test("0: heater power", x -> {
            dueWith(0, 1, 300, 400, 201, 400);
            // 50 * 3 / 10 less, and the humidifier's 10
            dueWith(0, 50, 300, 400, 250, 395);
        });
        test("1: cooler power", x -> {
            dueWith(1, 1, 100, 400, 199, 400);
            dueWith(1, 50, 100, 400, 150, 405);
        });
        test("2: humidifier power", x -> {
            dueWith(2, 1, 200, 600, 200, 401);
            dueWith(2, 50, 200, 600, 200, 450);
        });
        test("3: dryer power", x -> {
            dueWith(3, 1, 200, 200, 200, 399);
            dueWith(3, 50, 200, 200, 200, 350);
        });
        test("4: loss", x -> {
            x.set(9, 500);
            x.set(10, 1000);
            x.set(4, 0);
            x.pass(1);
            dueValues(x, TEMPERATURE, 200, HUMIDITY, 400);
            x.set(4, 20);
            x.setMode(0, 0, 50, 50);
            x.pass(1);
            // 300 * 20 / 100 and 600 * 20 / 100
            dueValues(x, TEMPERATURE, 260, HUMIDITY, 520);
        });
        test("5: coupling", x -> {
            dueWith(5, 0, 300, 400, 220, 400);
            // 20 * 20 / 10 less, and the humidifier's 10
            dueWith(5, 20, 300, 400, 220, 370);
            dueWith(5, 0, 100, 400, 185, 400);
            dueWith(5, 20, 100, 400, 185, 420);
        });
        test("6: temperature tolerance", x -> {
            dueSoak(6, 0, 1, 200, 400, DONE);
            dueSoak(6, 0, 1, 201, 400, SOAK);
            dueSoak(6, 0, 1, 199, 400, SOAK);
            // the machines come nearer by 1
            dueSoak(6, 100, 1, 301, 400, DONE);
            dueSoak(6, 100, 1, 302, 400, SOAK);
            dueSoak(6, 100, 1, 99, 400, DONE);
            dueSoak(6, 100, 1, 98, 400, SOAK);
        });
        test("7: humidity tolerance", x -> {
            dueSoak(7, 0, 1, 200, 400, DONE);
            dueSoak(7, 0, 1, 200, 401, SOAK);
            dueSoak(7, 0, 1, 200, 399, SOAK);
            dueSoak(7, 200, 1, 200, 601, DONE);
            dueSoak(7, 200, 1, 200, 602, SOAK);
            dueSoak(7, 200, 1, 200, 199, DONE);
            dueSoak(7, 200, 1, 200, 198, SOAK);
        });
        test("8: rest", x -> {
            x.set(8, 0);
            points(x, 220, 400);
            points(x, 205, 400);
            dueValues(x, TEMPERATURE, 205, BLOCKED, 0);
            points(x, 220, 400);
            dueValues(x, TEMPERATURE, 220, BLOCKED, 0);
        });
        test("8: rest", x -> {
            calm(x);
            x.set(8, 30);
            points(x, 220, 400);
            x.setPoints(205, 400);
            due(220, x.pass(30));
            dueValues(x, BLOCKED, 30, HEATER_REST, 30);
            due(205, x.pass(1));
            x.setPoints(220, 400);
            due(205, x.pass(30));
            dueValues(x, BLOCKED, 60, COOLER_REST, 30);
            due(220, x.pass(1));
            dueValues(x, BLOCKED, 60);
        });
        test("9: ambient temperature", x -> {
            dueWith(9, -200, 200, 400, 192, 400);
            dueWith(9, 500, 200, 400, 206, 400);
        });
        test("10: ambient humidity", x -> {
            dueWith(10, 0, 200, 400, 200, 392);
            dueWith(10, 1000, 200, 400, 200, 412);
        });
        test("11: patience", x -> {
            x.set(11, 0);
            program(x, 1800, 400, 0, 1);
            x.pass(1);
            dueValues(x, PHASE, FAILED, PAUSED, 1);
        });
        test("11: patience", x -> {
            x.set(11, 1000);
            program(x, 1800, 400, 0, 1);
            x.pass(500);
            x.pass(500);
            dueValues(x, PHASE, SOAK, PAUSED, 1000);
            x.pass(1);
            dueValues(x, PHASE, FAILED, PAUSED, 1001);
        });
    }

    private void chamber() {
        test("The temperature is 200 and the humidity is 400 at first", x ->
            dueValues(x, TEMPERATURE, 200, HUMIDITY, 400));
        test("these are also the first set points", x -> {
            dueValues(x, TEMPERATURE_POINT, 200, HUMIDITY_POINT, 400);
            due(200, x.setPoints(300, 500));
        });
        test("The door is closed at first.", x -> {
            dueValues(x, DOOR, 0);
            refuse(STATE, y -> { }, y -> y.door(false));
            due(0, x.door(true));
        });
        test("There are two channels: 0 temperature and 1 humidity.", x -> {
            due(200, x.valueIn(0, 0));
            due(400, x.valueIn(1, 0));
            due(5, change(0, 1, 10, 50, 50));
            due(5, change(1, 1, 10, 50, 50));
            refuse(OUT, IDLE_ONE, y -> y.setMode(-1, 0, 50, 2), y -> y.setMode(2, 0, 50, 2),
                y -> y.valueIn(-1, 1), y -> y.valueIn(2, 1));
        });
        test("a mode (0 to 2; 0 at first)", x -> {
            for (int channel = 0; channel < 2; channel++) {
                int c = channel;
                due(0, x.setMode(c, 2, 50, 2));
                due(2, x.setMode(c, 0, 50, 2));
                due(0, x.setMode(c, 1, 50, 2));
                refuse(ARGUMENT, IDLE_ONE, y -> y.setMode(c, -1, 50, 2), y -> y.setMode(c, 3, 50, 2));
            }
        });
        test("a gain (1 to 100; 50 at first)", x -> {
            for (int channel = 0; channel < 2; channel++) {
                int c = channel;
                due(0, change(c, 1, 1, 2, 99));
                due(1, change(c, 1, 1, 2, 100));
                due(7, change(c, 1, 100, 2, 7));
                refuse(ARGUMENT, IDLE_ONE, y -> y.setMode(c, 1, 0, 2), y -> y.setMode(c, 1, 101, 2));
            }
        });
        test("a gain (1 to 100; 50 at first)", x -> {
            // 25 come in from outside; mode 0 goes to 252, mode 1 with the gain 50 to 250
            x.set(0, 27);
            x.set(4, 20);
            x.set(9, 325);
            x.setPoints(251, 400);
            due(0, x.bestMode(1));
            // mode 0 goes to 251, mode 1 with the gain 50 to 250
            x.set(0, 26);
            x.setPoints(250, 400);
            due(1, x.bestMode(1));
        });
        test("a band (0 to 50; 2 at first)", x -> {
            for (int channel = 0; channel < 2; channel++) {
                int c = channel;
                due(0, change(c, 0, 50, 0, 0));
                due(1, change(c, 0, 50, 0, 1));
                due(0, change(c, 0, 50, 50, 50));
                due(c == 0 ? 20 : 10, change(c, 0, 50, 50, 51));
                refuse(ARGUMENT, IDLE_ONE, y -> y.setMode(c, 0, 50, -1), y -> y.setMode(c, 0, 50, 51));
            }
        });
        test("a band (0 to 50; 2 at first)", x -> {
            points(x, 202, 402);
            dueValues(x, TEMPERATURE, 200, HUMIDITY, 400);
            points(x, 203, 403);
            dueValues(x, TEMPERATURE, 203, HUMIDITY, 403);
        });
    }

    private void dueChanges(int mode, int gain, int band, int[] errors, int[] changes) {
        for (int i = 0; i < errors.length; i++) {
            due(changes[i], change(0, mode, gain, band, errors[i]));
            due(changes[i], change(1, mode, gain, band, errors[i]));
        }
    }

    private void demand() {
        test("with 0, the error if its absolute value is greater than the band, and 0 otherwise", x -> {
            dueChanges(0, 50, 5, new int[] {-6, -5, 0, 5, 6}, new int[] {-6, 0, 0, 0, 6});
            dueChanges(0, 50, 0, new int[] {-1, 0, 1}, new int[] {-1, 0, 1});
        });
        test("with 1, error * gain / 100", x -> {
            dueChanges(1, 1, 0, new int[] {-100, -99, 0, 99, 100}, new int[] {-1, 0, 0, 0, 1});
            dueChanges(1, 100, 50, new int[] {-7, -1, 0, 1, 7}, new int[] {-7, -1, 0, 1, 7});
        });
        test("with 2, 1000 if the error is greater than the band, -1000 if it is less than -band,"
            + " and 0 otherwise", x -> {
            int[] errors = {-6, -5, 0, 5, 6};
            int[] temperatures = {-15, 0, 0, 0, 20};
            int[] humidities = {-10, 0, 0, 0, 10};
            for (int i = 0; i < errors.length; i++) {
                due(temperatures[i], change(0, 2, 50, 5, errors[i]));
                due(humidities[i], change(1, 2, 50, 5, errors[i]));
            }
            due(0, change(0, 2, 50, 0, 0));
            due(20, change(0, 2, 50, 0, 1));
            due(-15, change(0, 2, 50, 0, -1));
        });
        test("it is at most the power that raises the value (heater or humidifier)", x -> {
            due(19, change(0, 0, 50, 2, 19));
            due(20, change(0, 0, 50, 2, 20));
            due(20, change(0, 0, 50, 2, 21));
            due(20, change(0, 1, 100, 2, 1600));
            due(9, change(1, 0, 50, 2, 9));
            due(10, change(1, 0, 50, 2, 10));
            due(10, change(1, 0, 50, 2, 11));
            due(10, change(1, 2, 50, 2, 600));
        });
        test("at least minus the power that lowers it (cooler or dryer)", x -> {
            due(-14, change(0, 0, 50, 2, -14));
            due(-15, change(0, 0, 50, 2, -15));
            due(-15, change(0, 0, 50, 2, -16));
            due(-15, change(0, 1, 100, 2, -600));
            due(-9, change(1, 0, 50, 2, -9));
            due(-10, change(1, 0, 50, 2, -10));
            due(-10, change(1, 0, 50, 2, -11));
            due(-10, change(1, 2, 50, 2, -400));
        });
    }
}
