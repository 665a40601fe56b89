/** All that an object answers, as a text, so that two objects can be told apart. */
final class Picture {
    private final StringBuilder text = new StringBuilder();
    private final StormPipes x;

    private Picture(StormPipes x) {
        this.x = x;
    }

    /** What is told now, by calls that change nothing. */
    static String now(StormPipes x) {
        Picture picture = new Picture(x);
        picture.tellAll();
        return picture.text.toString();
    }

    /** What is told after more seconds: rests, pumps, gates and gullies show themselves there. */
    static String later(StormPipes x) {
        Picture picture = new Picture(x);
        picture.add("run", x.run(1));
        picture.add("run", x.run(130));
        picture.tellAll();
        return picture.text.toString();
    }

    /** What more calls answer that build on what is there, and what is told behind them. */
    static String afterMore(StormPipes x) {
        Picture picture = new Picture(x);
        picture.changeRainsAndStreets();
        picture.buildMore();
        picture.layMore();
        picture.add("run", x.run(7));
        picture.tellAll();
        return picture.text.toString();
    }

    private void add(String what, long answer) {
        text.append(what).append('=').append(answer).append(' ');
    }

    private void tellAll() {
        for (int what = 0; what <= 8; what++) {
            add("count" + what, x.count(what));
        }
        for (int node = 0; node < x.count(0); node++) {
            for (int what = 0; what <= 3; what++) {
                add("told" + node + "," + what, x.told(node, what));
            }
        }
        for (int pipe = 0; pipe < x.count(1); pipe++) {
            for (int what = 0; what <= 2; what++) {
                add("flow" + pipe + "," + what, x.flow(pipe, what));
            }
        }
        for (int pump = 0; pump < x.count(3); pump++) {
            add("pumps" + pump, x.pumps(pump));
        }
        for (int cell = 0; cell <= 7; cell++) {
            add("cell" + cell, x.cell(cell));
        }
        for (int part = 0; part <= 4; part++) {
            add("litres" + part, x.litres(part));
        }
        add("keeps", x.keeps() ? 1 : 0);
        tellLaid();
    }

    private void tellLaid() {
        for (int k = 0; k < x.count(7); k++) {
            for (int what = 0; what <= 2; what++) {
                add("laid" + k + "," + what, x.laid(k, what));
            }
        }
    }

    private void changeRainsAndStreets() {
        int[] minutes = {0, 1, 2, 3, 1_438, 1_439};
        for (int minute : minutes) {
            add("rain" + minute, x.rain(minute, 800));
        }
        for (int node = 0; node < x.count(0); node++) {
            add("street" + node, x.street(node, 3));
        }
    }

    private void buildMore() {
        add("node", x.node(-100, -120, 2));
        add("pipe", x.pipe(0, 1, 20, 60));
        add("area", x.area(1, 400, 10));
        add("pump", x.pump(1, 0, -90_000, -95_000, 2));
        add("gate", x.gate(0, 1, 1));
        add("gully", x.gully(3, 0, 9));
    }

    private void layMore() {
        add("lay", x.lay(250, 3));
        tellLaid();
        add("list", x.list(2_000, 11));
        add("piece", x.piece(-70, 25, 1));
        add("lay", x.lay(200, 1));
        tellLaid();
    }
}
