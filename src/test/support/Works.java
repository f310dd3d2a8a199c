/** Objects in the states that tests begin with. */
final class Works {
    private Works() {
    }

    static Camslide fresh() {
        return new Camslide();
    }

    /** A part 0 of diameter 60 and length 380, made by one forming tool at 6 that is laid; its cycle is 600. */
    static Camslide formed() {
        return single('f', 6, 100, 10);
    }

    /** Part 0 of diameter 60 and length 380, with one operation by turns of 6 hundredths of a second, laid from 0. */
    static Camslide single(char kind, int position, int travel, int rise) {
        Camslide x = new Camslide();
        x.part(60, 380);
        x.operation(0, kind, position, travel, 10, 1000, 1);
        x.lay(0, 0, 0, rise, 0);
        return x;
    }

    /** Part 0 with operations that travel 40 and need no rooms; rises of 9 and returns of 1 make them 10 long. */
    static Camslide withOperations(int... positions) {
        Camslide x = new Camslide();
        x.part(60, 100);
        for (int position : positions) {
            x.operation(0, 't', position, 40, 10, 1000, 0);
        }
        return x;
    }

    /** Something of all, and nothing as it was at first; of part 0 a bar is begun. */
    static Camslide busy() {
        Camslide x = new Camslide();
        x.setLimits(30, 25);
        x.part(60, 380);
        x.part(60, 100);
        x.part(80, 999);
        x.part(80, 200);
        x.operation(0, 'f', 6, 100, 10, 1000, 1);
        x.operation(0, 't', 0, 40, 10, 1000, 2);
        x.operation(0, 'h', 2, 41, 10, 900, 4);
        x.operation(1, 'd', 1, 1, 10, 1000, 1);
        x.operation(1, 't', 1, 30, 10, 1000, 1);
        x.operation(3, 'k', 7, 30, 10, 1000, 1);
        x.operation(3, 'f', 8, 50, 10, 2000, 1);
        x.lay(0, 0, 0, 10, 0);
        x.lay(0, 1, 0, 9, 1);
        x.lay(0, 2, 20, 5, 0);
        x.lay(1, 1, 3, 4, 5);
        x.lay(3, 0, 0, 10, 0);
        x.lay(3, 1, 20, 10, 0);
        x.station(0, 1, 5);
        x.setRatio(0, 3);
        x.setRatio(6, 2);
        x.cam(1500);
        x.cam(1000);
        x.cam(4000);
        x.cutCam(0, 0, 0);
        x.cutCam(2, 0, 1);
        x.bring(60, 5, 2600);
        x.bring(80, 6, 3000);
        x.setWear(6, 3);
        x.setTolerance(0, 0, 33);
        x.run(3, 20);
        x.run(0, 7);
        x.correct(6, 12);
        x.correct(6, -5);
        x.correct(0, -4);
        x.grind(6);
        x.run(0, 1);
        x.order(0, 100);
        x.order(3, 50);
        x.order(0, 7);
        return x;
    }

    static Camslide busyAndStopped() {
        Camslide x = busy();
        x.stop(true);
        return x;
    }

    /** As busy, but that part 3, of which there is a lot, has no cycle any more. */
    static Camslide halvedBehindItsRun() {
        Camslide x = busy();
        x.halve(3, 0);
        return x;
    }

    /** All that can be full is: parts, operations of part 0, cams, orders, bars of 60; the tool at 6 is ground down. */
    static Camslide full() {
        Camslide x = new Camslide();
        for (int i = 0; i < 5; i++) {
            x.part(60, 380 + i);
        }
        for (int i = 0; i < 10; i++) {
            // Travels from 1 to 10: the first can't be halved, the part being full or not.
            x.operation(0, 'f', 6, i + 1, 10, 1000, 1);
            x.lay(0, i, 10 * i, 9, 0);
        }
        x.operation(1, 't', 7, 10, 10, 1000, 1);
        for (int i = 0; i < 12; i++) {
            x.cam(1000 + i);
        }
        for (int i = 0; i < 10; i++) {
            x.bring(60, 99, 2600);
        }
        x.run(0, 3);
        x.bring(60, 10, 2600);
        for (int i = 0; i < 7; i++) {
            x.grind(6);
        }
        x.run(0, 1);
        for (int i = 0; i < 8; i++) {
            x.order(i == 7 ? 1 : 0, 10 + i);
        }
        return x;
    }

    /** As full, with a place for one more of each. */
    static Camslide nearlyFull() {
        Camslide x = new Camslide();
        for (int i = 0; i < 4; i++) {
            x.part(60, 380);
        }
        for (int i = 0; i < 9; i++) {
            x.operation(0, 'f', 6, 2, 10, 1000, 1);
        }
        for (int i = 0; i < 11; i++) {
            x.cam(1000);
        }
        for (int i = 0; i < 7; i++) {
            x.order(0, 1);
        }
        for (int i = 0; i < 10; i++) {
            x.bring(60, 99, 2600);
        }
        for (int i = 0; i < 6; i++) {
            x.grind(6);
        }
        return x;
    }

    /** An operation of part 0 that is not laid, and no cams. */
    static Camslide nearlyLaid() {
        Camslide x = formed();
        x.operation(0, 't', 7, 40, 10, 1000, 2);
        x.halve(0, 0);
        return x;
    }

    /** Operations of part 0 that collide in all hundredths, with bars and a cam. */
    static Camslide colliding() {
        Camslide x = withOperations(6, 7);
        x.operation(0, 't', 8, 40, 10, 1000, 1);
        x.operation(0, 'd', 6, 40, 10, 1000, 1);
        x.lay(0, 0, 4, 9, 0);
        x.lay(0, 1, 5, 9, 0);
        x.lay(0, 2, 0, 90, 9);
        x.lay(0, 3, 0, 99, 0);
        x.bring(60, 3, 2000);
        x.cam(2000);
        return x;
    }

    /** Of four operations of the turret the third would not end in time, though the last one would without it. */
    static Camslide crowded() {
        Camslide x = withOperations(0, 5, 4, 4);
        x.lay(0, 0, 10, 40, 0);
        x.lay(0, 1, 20, 29, 0);
        x.lay(0, 2, 30, 29, 0);
        x.lay(0, 3, 50, 2, 0);
        return x;
    }

    /** A cam of the radius told; the shape of operation 0 takes 201 off, and operation 1 is not laid. */
    static Camslide withCam(int radius) {
        Camslide x = new Camslide();
        x.part(60, 100);
        x.operation(0, 't', 0, 151, 10, 1000, 0);
        x.operation(0, 't', 1, 40, 10, 1000, 0);
        x.lay(0, 0, 0, 9, 0);
        x.cam(radius);
        return x;
    }

    /** Orders for the parts 0, 1 and 0, of which 1 has no cycle. */
    static Camslide orderedAhead() {
        Camslide x = formed();
        x.part(60, 100);
        x.order(0, 5);
        x.order(1, 5);
        x.order(0, 5);
        return x;
    }

    /** Parts 0 and 1 of one diameter, 2 of another, with cycles of 300 each, and orders: a part, its pieces and so on. */
    static Camslide planned(int... orders) {
        Camslide x = new Camslide();
        x.part(60, 100);
        x.part(60, 200);
        x.part(80, 100);
        for (int i = 0; i < 3; i++) {
            x.operation(i, 't', 6, 100, 10, 1000, 0);
            x.lay(i, 0, 0, 20, 0);
        }
        for (int i = 0; i + 1 < orders.length; i += 2) {
            x.order(orders[i], orders[i + 1]);
        }
        return x;
    }
}
