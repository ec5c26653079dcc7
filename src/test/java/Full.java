/** A city with as many lines of each sort as there is room for. */
final class Full {
    /** Strokes of the panes: 1, 2, 4, 8, 3, 12, 15, 0. */
    static final String PANES = ";pane pa plain xo,oo;pane pb thick ox,oo;pane pc ice oo,xo;pane pd plain oo,ox"
            + ";pane pe plain xx,oo;pane pf plain oo,xx;pane pg thick xx,xx;pane ph ice oo,oo";
    /** Strokes of the words: 1, 2, 4, 3, 12, 7, 14, 15. */
    static final String WORDS = ";word wa xo,oo;word wb ox,oo;word wc oo,xo;word wd xx,oo"
            + ";word we oo,xx;word wf xx,xo;word wg ox,xx;word wh xx,xx";
    /** Dark cells of the views: 0, 1, 2, 4, 8, 15. */
    static final String VIEWS = ";view va oo,oo;view vb xo,oo;view vc ox,oo;view vd oo,xo;view ve oo,ox;view vf xx,xx";
    static final String CORNERS = ";corner ca va;corner cb vb;corner cc vc;corner cd vd;corner ce ve;corner cf vf"
            + ";corner cg va";
    static final String STREETS = ";street ca cb 1 breaks 0;street cb cc 2 breaks 50;street cc cd 99 breaks 1"
            + ";street cd ce 3 breaks 10;street ce cf 4 breaks 20;street cf cg 5 breaks 30;street ca cg 99 breaks 50"
            + ";street ca cc 3 breaks 0;street cb cd 50 breaks 5;street cc ce 60 breaks 0;street cd cf 7 breaks 25"
            + ";street ce cg 10 breaks 40";
    static final String THIEVES = ";thief ca;thief cb;thief cc;thief cd;thief ce;thief cf;thief cg";
    static final String LETTERS = ";sent pa ca cg;sent ph ca ca;sent pe cb ce;sent pg cg ca;sent pb cc cc;sent pd cf cb";
    static final String PEOPLE = ";person ka;person kb;person kc;person kd";
    static final String SHARDS = ";shard ka xm,mm;shard kb mo,mm;shard kc mm,xm;shard kd mm,mo;shard ka xx,mm"
            + ";shard kb mm,xx;shard kc oo,oo;shard kd xm,mx";

    static final String CITY = Due.HEAD + PANES + WORDS + VIEWS + CORNERS + STREETS + THIEVES + LETTERS + PEOPLE
            + SHARDS + ";shelf 9";

    /** The most cells, each of twenty with a number of its own. */
    static final String LARGE = "city wide 5 high 4 hail 99 ice 60"
            + ";pane e plain ooooo,ooooo,ooooo,ooooo;pane f plain xxxxx,xxxxx,xxxxx,xxxxx"
            + ";pane l ice ooooo,ooooo,ooooo,oooox;pane t thick xoooo,ooooo,ooooo,ooooo"
            + ";word none ooooo,ooooo,ooooo,ooooo;word all xxxxx,xxxxx,xxxxx,xxxxx;word last ooooo,ooooo,ooooo,oooox"
            + ";view day ooooo,ooooo,ooooo,ooooo;view night xxxxx,xxxxx,xxxxx,xxxxx;view end ooooo,ooooo,ooooo,oooox"
            + ";view row ooooo,ooooo,xxxxx,ooooo";

    static final int ALL = (1 << 20) - 1;

    private Full() {
    }
}
