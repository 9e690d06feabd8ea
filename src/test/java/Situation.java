/** Watches with something in every corner, each one made anew by the same calls. */
enum Situation {
    /** Nothing was done yet. */
    NEW {
        @Override
        AltimeterWatch make() {
            return new AltimeterWatch();
        }
    },
    /** In the moving mode, below the threshold, with some marks and saved states, one memory, half a text. */
    MOVING {
        @Override
        AltimeterWatch make() {
            AltimeterWatch x = new AltimeterWatch();
            x.setThreshold(77);
            x.travel(12, 9800);
            x.setMark();
            x.calibrate(2500);
            x.setAlarm(33);
            x.store(1);
            for (int i = 0; i < 3; i++) {
                x.undo();
            }
            x.travel(7, 9795);
            x.setMark();
            return Check.typed(x, "s;5>50");
        }
    },
    /** In the station mode, its altitude out of reach, with an alarm by the limit before, and an error in the text. */
    STATION {
        @Override
        AltimeterWatch make() {
            AltimeterWatch x = new AltimeterWatch();
            x.travel(5, 9500);
            x.setMark();
            x.store(0);
            x.setStation(true);
            x.calibrate(-4000);
            x.travel(40, 9460);
            x.setThreshold(499);
            x.setAlarm(20);
            x.travel(1, 9440);
            x.setAlarm(60);
            return Check.typed(x, "m;c10x");
        }
    },
    /** Nothing more fits in: ten marks, 60 pressures, six saved states, two memories, 60 characters. */
    FULL {
        @Override
        AltimeterWatch make() {
            AltimeterWatch x = new AltimeterWatch();
            x.store(0);
            for (int i = 1; i <= 11; i++) {
                x.travel(i, 10132 - 100 * i + 160 * (i % 3));
                x.setMark();
            }
            x.setStation(true);
            x.travel(90, 9000);
            x.store(1);
            x.setAlarm(99);
            x.setThreshold(11);
            x.setSea(9999);
            x.travel(2, 8990);
            for (int i = 0; i < 14; i++) {
                Check.typed(x, "m;s;");
            }
            return Check.typed(x, "c900");
        }
    };

    /** A call of a watch, or some calls. */
    interface Call {
        void of(AltimeterWatch watch);
    }

    abstract AltimeterWatch make();

    AltimeterWatch makeAnd(Call call) {
        AltimeterWatch watch = make();
        call.of(watch);
        return watch;
    }
}
