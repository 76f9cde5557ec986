def am_oc9 (ou : Nat → Int64) : am_E := .inl (.long, 1, .inr (.inl ou))
abbrev hL (ll : Int32) (he : Int32) (de : Int32) (li : Nat → Int32) (en : Nat → Int32) (po : Nat → Int32) (pw : Int32) (su : Int32) (wr : Int32) (cs : Int32) (wb : Int32) (bt : Nat → Int32) (ct : Int32) (lc : Int32) (ad : Nat → Int32) (ctb : Int32) (lcb : Int32) (adb : Nat → Int32) (fx : Int32) (us : Nat → Int32) (ln : Int32) (pt : Int32) (tx : Nat → Int32) (br : Nat → Int32) (rw : Nat → Int32) (on : Int32) (dd : Int32) (mw : Int32) (cu : Int32) (ty : Int32) (mh : Int32) (md : Int32) (dk : Nat → Int32) (op : Nat → Int32) (th : Int32) (sp : Int32) (mp : Int32) (mf : Int32) (ml : Nat → Int32) (ps : Nat → Int32) (nm : Nat → Int32) (mu : Nat → Int32) (ch : Nat → Int32) (wy : Nat → Int32) (nx : Nat → Int32) (ou : Nat → Int64) : List am_E :=
  hC ll he de li en po pw su wr cs wb bt ct lc ad ctb lcb adb fx us ln pt tx br rw ((.inr (7, [.int th, .ref 19, .int on, .int sp, .int dd, .int mw, .int cu, .ref 20, .int ty, .int mh, .int md, .ref 21, .ref 22, .ref 23, .int mp, .ref 24, .ref 25, .ref 26, .ref 27, .int mf])) :: (.inl (.int, 2240, .inl dk)) :: (.inl (.int, 26, .inl ml)) :: (.inl (.int, 4, .inl op)) :: (.inl (.int, 4, .inl ps)) :: (.inl (.int, 6, .inl nm)) :: (.inl (.boolean, 64, .inl mu)) :: (.inl (.int, 64, .inl ch)) :: (.inl (.int, 5, .inl wy)) :: (.inl (.int, 5, .inl nx)) :: [.inl (.long, 1, .inr (.inl ou))])
def hX (ll : Int32) (he : Int32) (de : Int32) (li : Nat → Int32) (en : Nat → Int32) (po : Nat → Int32) (pw : Int32) (su : Int32) (wr : Int32) (cs : Int32) (wb : Int32) (bt : Nat → Int32) (ct : Int32) (lc : Int32) (ad : Nat → Int32) (ctb : Int32) (lcb : Int32) (adb : Nat → Int32) (fx : Int32) (us : Nat → Int32) (ln : Int32) (pt : Int32) (tx : Nat → Int32) (br : Nat → Int32) (rw : Nat → Int32) : Nat → am_E := fun i => (hC ll he de li en po pw su wr cs wb bt ct lc ad ctb lcb adb fx us ln pt tx br rw []).getD i (.inl (.int, 0, .inl (fun _ => 0)))
theorem t_M_thrown {l : Launch} {D : va_G} {dA : FieldType → ClassId} (htr : l.stackTraces = false) {ll : Int32} {he : Int32} {de : Int32} {li : Nat → Int32} {en : Nat → Int32} {po : Nat → Int32} {pw : Int32} {su : Int32} {wr : Int32} {cs : Int32} {wb : Int32} {bt : Nat → Int32} {ct : Int32} {lc : Int32} {ad : Nat → Int32} {ctb : Int32} {lcb : Int32} {adb : Nat → Int32} {fx : Int32} {us : Nat → Int32} {ln : Int32} {pt : Int32} {tx : Nat → Int32} {br : Nat → Int32} {rw : Nat → Int32} {on : Int32} {dd : Int32} {mw : Int32} {cu : Int32} {ty : Int32} {mh : Int32} {md : Int32} {dk : Nat → Int32} {op : Nat → Int32} {th : Int32} {sp : Int32} {mp : Int32} {mf : Int32} {ml : Nat → Int32} {ps : Nat → Int32} {nm : Nat → Int32} {mu : Nat → Int32} {ch : Nat → Int32} {wy : Nat → Int32} {nx : Nat → Int32} {ou : Nat → Int64} {r : Int32} (hf : f_M_thrown th = some r) {o : am_O} (ho : .inl (some (.int r)) = o) :
    am_M (am_kk l D dA) y_M_thrown ws_M_thrown (am_rm 0 o) [.ref 18] (hL ll he de li en po pw su wr cs wb bt ct lc ad ctb lcb adb fx us ln pt tx br rw on dd mw cu ty mh md dk op th sp mp mf ml ps nm mu ch wy nx ou) o (hL ll he de li en po pw su wr cs wb bt ct lc ad ctb lcb adb fx us ln pt tx br rw on dd mw cu ty mh md dk op th sp mp mf ml ps nm mu ch wy nx ou) :=
  s_M_thrown (hx := hX ll he de li en po pw su wr cs wb bt ct lc ad ctb lcb adb fx us ln pt tx br rw) (rest := [.inl (.long, 1, .inr (.inl ou))]) htr hf ho
theorem t_M_type {l : Launch} {D : va_G} {dA : FieldType → ClassId} (htr : l.stackTraces = false) {ll : Int32} {he : Int32} {de : Int32} {li : Nat → Int32} {en : Nat → Int32} {po : Nat → Int32} {pw : Int32} {su : Int32} {wr : Int32} {cs : Int32} {wb : Int32} {bt : Nat → Int32} {ct : Int32} {lc : Int32} {ad : Nat → Int32} {ctb : Int32} {lcb : Int32} {adb : Nat → Int32} {fx : Int32} {us : Nat → Int32} {ln : Int32} {pt : Int32} {tx : Nat → Int32} {br : Nat → Int32} {rw : Nat → Int32} {on : Int32} {dd : Int32} {mw : Int32} {cu : Int32} {ty : Int32} {mh : Int32} {md : Int32} {dk : Nat → Int32} {op : Nat → Int32} {th : Int32} {sp : Int32} {mp : Int32} {mf : Int32} {ml : Nat → Int32} {ps : Nat → Int32} {nm : Nat → Int32} {mu : Nat → Int32} {ch : Nat → Int32} {wy : Nat → Int32} {nx : Nat → Int32} {ou : Nat → Int64} {x1 : Int32} {r : Int32 × Int32 × Int32 × (Nat → Int32)} (hf : f_M_type ty th ml x1 = some r) {o : am_O} (ho : .inl (some (.int r.1)) = o) :
    am_M (am_kk l D dA) y_M_type ws_M_type (am_rm 0 o) [.ref 18, .int x1] (hL ll he de li en po pw su wr cs wb bt ct lc ad ctb lcb adb fx us ln pt tx br rw on dd mw cu ty mh md dk op th sp mp mf ml ps nm mu ch wy nx ou) o (hL ll he de li en po pw su wr cs wb bt ct lc ad ctb lcb adb fx us ln pt tx br rw on dd mw cu r.2.1 mh md dk op r.2.2.1 sp mp mf r.2.2.2 ps nm mu ch wy nx ou) :=
  s_M_type (hx := hX ll he de li en po pw su wr cs wb bt ct lc ad ctb lcb adb fx us ln pt tx br rw) (rest := [.inl (.long, 1, .inr (.inl ou))]) htr hf ho
theorem t_M_create {l : Launch} {D : va_G} {dA : FieldType → ClassId} (htr : l.stackTraces = false) {ll : Int32} {he : Int32} {de : Int32} {li : Nat → Int32} {en : Nat → Int32} {po : Nat → Int32} {pw : Int32} {su : Int32} {wr : Int32} {cs : Int32} {wb : Int32} {bt : Nat → Int32} {ct : Int32} {lc : Int32} {ad : Nat → Int32} {ctb : Int32} {lcb : Int32} {adb : Nat → Int32} {fx : Int32} {us : Nat → Int32} {ln : Int32} {pt : Int32} {tx : Nat → Int32} {br : Nat → Int32} {rw : Nat → Int32} {th : Int32} {sp : Int32} {mp : Int32} {mf : Int32} {ml : Nat → Int32} {ps : Nat → Int32} {nm : Nat → Int32} {mu : Nat → Int32} {ch : Nat → Int32} {wy : Nat → Int32} {nx : Nat → Int32} {w : am_MS} {ou : Nat → Int64} {x1 : Int32} {r : am_MS × Int32 × Int32 × (Nat → Int32)} (hf : f_M_create w th sp mp ml nm x1 = some r) {o : am_O} (ho : .inl none = o) :
    am_M (am_kk l D dA) y_M_create ws_M_create (am_rm 8 o) [.ref 18, .int x1] (hL ll he de li en po pw su wr cs wb bt ct lc ad ctb lcb adb fx us ln pt tx br rw w.1 w.2.1 w.2.2.1 w.2.2.2.1 w.2.2.2.2.1 w.2.2.2.2.2.1 w.2.2.2.2.2.2.1 w.2.2.2.2.2.2.2.1 w.2.2.2.2.2.2.2.2 th sp mp mf ml ps nm mu ch wy nx ou) o (hL ll he de li en po pw su wr cs wb bt ct lc ad ctb lcb adb fx us ln pt tx br rw r.1.1 r.1.2.1 r.1.2.2.1 r.1.2.2.2.1 r.1.2.2.2.2.1 r.1.2.2.2.2.2.1 r.1.2.2.2.2.2.2.1 r.1.2.2.2.2.2.2.2.1 r.1.2.2.2.2.2.2.2.2 r.2.1 sp r.2.2.1 mf ml ps r.2.2.2 mu ch wy nx ou) :=
  s_M_create (hx := hX ll he de li en po pw su wr cs wb bt ct lc ad ctb lcb adb fx us ln pt tx br rw) (rest := [.inl (.long, 1, .inr (.inl ou))]) htr hf ho
theorem t_M_delete {l : Launch} {D : va_G} {dA : FieldType → ClassId} (htr : l.stackTraces = false) {ll : Int32} {he : Int32} {de : Int32} {li : Nat → Int32} {en : Nat → Int32} {po : Nat → Int32} {pw : Int32} {su : Int32} {wr : Int32} {cs : Int32} {wb : Int32} {bt : Nat → Int32} {ct : Int32} {lc : Int32} {ad : Nat → Int32} {ctb : Int32} {lcb : Int32} {adb : Nat → Int32} {fx : Int32} {us : Nat → Int32} {ln : Int32} {pt : Int32} {tx : Nat → Int32} {br : Nat → Int32} {rw : Nat → Int32} {th : Int32} {sp : Int32} {mp : Int32} {mf : Int32} {ml : Nat → Int32} {ps : Nat → Int32} {nm : Nat → Int32} {mu : Nat → Int32} {ch : Nat → Int32} {wy : Nat → Int32} {nx : Nat → Int32} {w : am_MS} {ou : Nat → Int64} {r : am_MS × Int32} (hf : f_M_delete w th sp ml = some r) {o : am_O} (ho : .inl none = o) :
    am_M (am_kk l D dA) y_M_delete ws_M_delete (am_rm 8 o) [.ref 18] (hL ll he de li en po pw su wr cs wb bt ct lc ad ctb lcb adb fx us ln pt tx br rw w.1 w.2.1 w.2.2.1 w.2.2.2.1 w.2.2.2.2.1 w.2.2.2.2.2.1 w.2.2.2.2.2.2.1 w.2.2.2.2.2.2.2.1 w.2.2.2.2.2.2.2.2 th sp mp mf ml ps nm mu ch wy nx ou) o (hL ll he de li en po pw su wr cs wb bt ct lc ad ctb lcb adb fx us ln pt tx br rw r.1.1 r.1.2.1 r.1.2.2.1 r.1.2.2.2.1 r.1.2.2.2.2.1 r.1.2.2.2.2.2.1 r.1.2.2.2.2.2.2.1 r.1.2.2.2.2.2.2.2.1 r.1.2.2.2.2.2.2.2.2 r.2 sp mp mf ml ps nm mu ch wy nx ou) :=
  s_M_delete (hx := hX ll he de li en po pw su wr cs wb bt ct lc ad ctb lcb adb fx us ln pt tx br rw) (rest := [.inl (.long, 1, .inr (.inl ou))]) htr hf ho
theorem t_M_enter {l : Launch} {D : va_G} {dA : FieldType → ClassId} (htr : l.stackTraces = false) {ll : Int32} {he : Int32} {de : Int32} {li : Nat → Int32} {en : Nat → Int32} {po : Nat → Int32} {pw : Int32} {su : Int32} {wr : Int32} {cs : Int32} {wb : Int32} {bt : Nat → Int32} {ct : Int32} {lc : Int32} {ad : Nat → Int32} {ctb : Int32} {lcb : Int32} {adb : Nat → Int32} {fx : Int32} {us : Nat → Int32} {ln : Int32} {pt : Int32} {tx : Nat → Int32} {br : Nat → Int32} {rw : Nat → Int32} {on : Int32} {dd : Int32} {mw : Int32} {cu : Int32} {ty : Int32} {mh : Int32} {md : Int32} {dk : Nat → Int32} {op : Nat → Int32} {th : Int32} {sp : Int32} {mp : Int32} {mf : Int32} {ml : Nat → Int32} {ps : Nat → Int32} {nm : Nat → Int32} {mu : Nat → Int32} {ch : Nat → Int32} {wy : Nat → Int32} {nx : Nat → Int32} {ou : Nat → Int64} {r : Int32 × Int32 × Int32 × Int32 × Int32} (hf : f_M_enter on dd ty mh md dk th sp ml = some r) {o : am_O} (ho : .inl none = o) :
    am_M (am_kk l D dA) y_M_enter ws_M_enter (am_rm 8 o) [.ref 18] (hL ll he de li en po pw su wr cs wb bt ct lc ad ctb lcb adb fx us ln pt tx br rw on dd mw cu ty mh md dk op th sp mp mf ml ps nm mu ch wy nx ou) o (hL ll he de li en po pw su wr cs wb bt ct lc ad ctb lcb adb fx us ln pt tx br rw on r.1 mw cu r.2.1 r.2.2.1 r.2.2.2.1 dk op r.2.2.2.2 sp mp mf ml ps nm mu ch wy nx ou) :=
  s_M_enter (hx := hX ll he de li en po pw su wr cs wb bt ct lc ad ctb lcb adb fx us ln pt tx br rw) (rest := [.inl (.long, 1, .inr (.inl ou))]) htr hf ho
theorem t_M_open {l : Launch} {D : va_G} {dA : FieldType → ClassId} (htr : l.stackTraces = false) {ll : Int32} {he : Int32} {de : Int32} {li : Nat → Int32} {en : Nat → Int32} {po : Nat → Int32} {pw : Int32} {su : Int32} {wr : Int32} {cs : Int32} {wb : Int32} {bt : Nat → Int32} {ct : Int32} {lc : Int32} {ad : Nat → Int32} {ctb : Int32} {lcb : Int32} {adb : Nat → Int32} {fx : Int32} {us : Nat → Int32} {ln : Int32} {pt : Int32} {tx : Nat → Int32} {br : Nat → Int32} {rw : Nat → Int32} {on : Int32} {dd : Int32} {mw : Int32} {cu : Int32} {ty : Int32} {mh : Int32} {md : Int32} {dk : Nat → Int32} {op : Nat → Int32} {th : Int32} {sp : Int32} {mp : Int32} {mf : Int32} {ml : Nat → Int32} {ps : Nat → Int32} {nm : Nat → Int32} {mu : Nat → Int32} {ch : Nat → Int32} {wy : Nat → Int32} {nx : Nat → Int32} {ou : Nat → Int64} {r : Int32 × Int32 × Int32 × (Nat → Int32) × Int32 × (Nat → Int32)} (hf : f_M_open on dd ty mh dk op th sp ml ps = some r) {o : am_O} (ho : .inl (some (.int r.1)) = o) :
    am_M (am_kk l D dA) y_M_open ws_M_open (am_rm 8 o) [.ref 18] (hL ll he de li en po pw su wr cs wb bt ct lc ad ctb lcb adb fx us ln pt tx br rw on dd mw cu ty mh md dk op th sp mp mf ml ps nm mu ch wy nx ou) o (hL ll he de li en po pw su wr cs wb bt ct lc ad ctb lcb adb fx us ln pt tx br rw on r.2.1 mw cu r.2.2.1 mh md dk r.2.2.2.1 r.2.2.2.2.1 sp mp mf ml r.2.2.2.2.2 nm mu ch wy nx ou) :=
  s_M_open (hx := hX ll he de li en po pw su wr cs wb bt ct lc ad ctb lcb adb fx us ln pt tx br rw) (rest := [.inl (.long, 1, .inr (.inl ou))]) htr hf ho
theorem t_M_close {l : Launch} {D : va_G} {dA : FieldType → ClassId} (htr : l.stackTraces = false) {ll : Int32} {he : Int32} {de : Int32} {li : Nat → Int32} {en : Nat → Int32} {po : Nat → Int32} {pw : Int32} {su : Int32} {wr : Int32} {cs : Int32} {wb : Int32} {bt : Nat → Int32} {ct : Int32} {lc : Int32} {ad : Nat → Int32} {ctb : Int32} {lcb : Int32} {adb : Nat → Int32} {fx : Int32} {us : Nat → Int32} {ln : Int32} {pt : Int32} {tx : Nat → Int32} {br : Nat → Int32} {rw : Nat → Int32} {on : Int32} {dd : Int32} {mw : Int32} {cu : Int32} {ty : Int32} {mh : Int32} {md : Int32} {dk : Nat → Int32} {op : Nat → Int32} {th : Int32} {sp : Int32} {mp : Int32} {mf : Int32} {ml : Nat → Int32} {ps : Nat → Int32} {nm : Nat → Int32} {mu : Nat → Int32} {ch : Nat → Int32} {wy : Nat → Int32} {nx : Nat → Int32} {ou : Nat → Int64} {x1 : Int32} {r : Int32 × (Nat → Int32) × Int32} (hf : f_M_close op th x1 = some r) {o : am_O} (ho : .inl (some (.int r.1)) = o) :
    am_M (am_kk l D dA) y_M_close ws_M_close (am_rm 2 o) [.ref 18, .int x1] (hL ll he de li en po pw su wr cs wb bt ct lc ad ctb lcb adb fx us ln pt tx br rw on dd mw cu ty mh md dk op th sp mp mf ml ps nm mu ch wy nx ou) o (hL ll he de li en po pw su wr cs wb bt ct lc ad ctb lcb adb fx us ln pt tx br rw on dd mw cu ty mh md dk r.2.1 r.2.2 sp mp mf ml ps nm mu ch wy nx ou) :=
  s_M_close (hx := hX ll he de li en po pw su wr cs wb bt ct lc ad ctb lcb adb fx us ln pt tx br rw) (rest := [.inl (.long, 1, .inr (.inl ou))]) htr hf ho
theorem t_M_seek {l : Launch} {D : va_G} {dA : FieldType → ClassId} (htr : l.stackTraces = false) {ll : Int32} {he : Int32} {de : Int32} {li : Nat → Int32} {en : Nat → Int32} {po : Nat → Int32} {pw : Int32} {su : Int32} {wr : Int32} {cs : Int32} {wb : Int32} {bt : Nat → Int32} {ct : Int32} {lc : Int32} {ad : Nat → Int32} {ctb : Int32} {lcb : Int32} {adb : Nat → Int32} {fx : Int32} {us : Nat → Int32} {ln : Int32} {pt : Int32} {tx : Nat → Int32} {br : Nat → Int32} {rw : Nat → Int32} {on : Int32} {dd : Int32} {mw : Int32} {cu : Int32} {ty : Int32} {mh : Int32} {md : Int32} {dk : Nat → Int32} {op : Nat → Int32} {th : Int32} {sp : Int32} {mp : Int32} {mf : Int32} {ml : Nat → Int32} {ps : Nat → Int32} {nm : Nat → Int32} {mu : Nat → Int32} {ch : Nat → Int32} {wy : Nat → Int32} {nx : Nat → Int32} {ou : Nat → Int64} {x1 : Int32} {x2 : Int32} {r : Int32 × Int32 × (Nat → Int32)} (hf : f_M_seek dk op th ps x1 x2 = some r) {o : am_O} (ho : .inl (some (.int r.1)) = o) :
    am_M (am_kk l D dA) y_M_seek ws_M_seek (am_rm 2 o) [.ref 18, .int x1, .int x2] (hL ll he de li en po pw su wr cs wb bt ct lc ad ctb lcb adb fx us ln pt tx br rw on dd mw cu ty mh md dk op th sp mp mf ml ps nm mu ch wy nx ou) o (hL ll he de li en po pw su wr cs wb bt ct lc ad ctb lcb adb fx us ln pt tx br rw on dd mw cu ty mh md dk op r.2.1 sp mp mf ml r.2.2 nm mu ch wy nx ou) :=
  s_M_seek (hx := hX ll he de li en po pw su wr cs wb bt ct lc ad ctb lcb adb fx us ln pt tx br rw) (rest := [.inl (.long, 1, .inr (.inl ou))]) htr hf ho
theorem t_M_read {l : Launch} {D : va_G} {dA : FieldType → ClassId} (htr : l.stackTraces = false) {ll : Int32} {he : Int32} {de : Int32} {li : Nat → Int32} {en : Nat → Int32} {po : Nat → Int32} {pw : Int32} {su : Int32} {wr : Int32} {cs : Int32} {wb : Int32} {bt : Nat → Int32} {ct : Int32} {lc : Int32} {ad : Nat → Int32} {ctb : Int32} {lcb : Int32} {adb : Nat → Int32} {fx : Int32} {us : Nat → Int32} {ln : Int32} {pt : Int32} {tx : Nat → Int32} {br : Nat → Int32} {rw : Nat → Int32} {on : Int32} {dd : Int32} {mw : Int32} {cu : Int32} {ty : Int32} {mh : Int32} {md : Int32} {dk : Nat → Int32} {op : Nat → Int32} {th : Int32} {sp : Int32} {mp : Int32} {mf : Int32} {ml : Nat → Int32} {ps : Nat → Int32} {nm : Nat → Int32} {mu : Nat → Int32} {ch : Nat → Int32} {wy : Nat → Int32} {nx : Nat → Int32} {ou : Nat → Int64} {x1 : Int32} {x2 : Int32} {r : Int64 × Int32 × Int32 × (Nat → Int32)} (hf : f_M_read on dd dk op th sp ps x1 x2 = some r) {o : am_O} (ho : .inl (some (.long r.1)) = o) :
    am_M (am_kk l D dA) y_M_read ws_M_read (am_rm 4 o) [.ref 18, .int x1, .int x2] (hL ll he de li en po pw su wr cs wb bt ct lc ad ctb lcb adb fx us ln pt tx br rw on dd mw cu ty mh md dk op th sp mp mf ml ps nm mu ch wy nx ou) o (hL ll he de li en po pw su wr cs wb bt ct lc ad ctb lcb adb fx us ln pt tx br rw on r.2.1 mw cu ty mh md dk op r.2.2.1 sp mp mf ml r.2.2.2 nm mu ch wy nx ou) :=
  s_M_read (hx := hX ll he de li en po pw su wr cs wb bt ct lc ad ctb lcb adb fx us ln pt tx br rw) (rest := [.inl (.long, 1, .inr (.inl ou))]) htr hf ho
theorem t_M_write {l : Launch} {D : va_G} {dA : FieldType → ClassId} (htr : l.stackTraces = false) {ll : Int32} {he : Int32} {de : Int32} {li : Nat → Int32} {en : Nat → Int32} {po : Nat → Int32} {pw : Int32} {su : Int32} {wr : Int32} {cs : Int32} {wb : Int32} {bt : Nat → Int32} {ct : Int32} {lc : Int32} {ad : Nat → Int32} {ctb : Int32} {lcb : Int32} {adb : Nat → Int32} {fx : Int32} {us : Nat → Int32} {ln : Int32} {pt : Int32} {tx : Nat → Int32} {br : Nat → Int32} {rw : Nat → Int32} {th : Int32} {sp : Int32} {mp : Int32} {mf : Int32} {ml : Nat → Int32} {ps : Nat → Int32} {nm : Nat → Int32} {mu : Nat → Int32} {ch : Nat → Int32} {wy : Nat → Int32} {nx : Nat → Int32} {w : am_MS} {ou : Nat → Int64} {x1 : Int32} {x2 : Int64} {x4 : Int32} {r : Int32 × am_MS × Int32 × (Nat → Int32)} (hf : f_M_write w th sp ps x1 x2 x4 = some r) {o : am_O} (ho : .inl (some (.int r.1)) = o) :
    am_M (am_kk l D dA) y_M_write ws_M_write (am_rm 4 o) [.ref 18, .int x1, .long x2, .int x4] (hL ll he de li en po pw su wr cs wb bt ct lc ad ctb lcb adb fx us ln pt tx br rw w.1 w.2.1 w.2.2.1 w.2.2.2.1 w.2.2.2.2.1 w.2.2.2.2.2.1 w.2.2.2.2.2.2.1 w.2.2.2.2.2.2.2.1 w.2.2.2.2.2.2.2.2 th sp mp mf ml ps nm mu ch wy nx ou) o (hL ll he de li en po pw su wr cs wb bt ct lc ad ctb lcb adb fx us ln pt tx br rw r.2.1.1 r.2.1.2.1 r.2.1.2.2.1 r.2.1.2.2.2.1 r.2.1.2.2.2.2.1 r.2.1.2.2.2.2.2.1 r.2.1.2.2.2.2.2.2.1 r.2.1.2.2.2.2.2.2.2.1 r.2.1.2.2.2.2.2.2.2.2 r.2.2.1 sp mp mf ml r.2.2.2 nm mu ch wy nx ou) :=
  s_M_write (hx := hX ll he de li en po pw su wr cs wb bt ct lc ad ctb lcb adb fx us ln pt tx br rw) (rest := [.inl (.long, 1, .inr (.inl ou))]) htr hf ho
theorem t_M_list {l : Launch} {D : va_G} {dA : FieldType → ClassId} (htr : l.stackTraces = false) {ll : Int32} {he : Int32} {de : Int32} {li : Nat → Int32} {en : Nat → Int32} {po : Nat → Int32} {pw : Int32} {su : Int32} {wr : Int32} {cs : Int32} {wb : Int32} {bt : Nat → Int32} {ct : Int32} {lc : Int32} {ad : Nat → Int32} {ctb : Int32} {lcb : Int32} {adb : Nat → Int32} {fx : Int32} {us : Nat → Int32} {ln : Int32} {pt : Int32} {tx : Nat → Int32} {br : Nat → Int32} {rw : Nat → Int32} {on : Int32} {dd : Int32} {mw : Int32} {cu : Int32} {ty : Int32} {mh : Int32} {md : Int32} {dk : Nat → Int32} {op : Nat → Int32} {th : Int32} {sp : Int32} {mp : Int32} {mf : Int32} {ml : Nat → Int32} {ps : Nat → Int32} {nm : Nat → Int32} {mu : Nat → Int32} {ch : Nat → Int32} {wy : Nat → Int32} {nx : Nat → Int32} {ou : Nat → Int64} {x1 : Int32} {x2 : Int32} {r : Int32 × Int32 × Int32} (hf : f_M_list on dd mh dk th sp x1 x2 = some r) {o : am_O} (ho : .inl (some (.int r.1)) = o) :
    am_M (am_kk l D dA) y_M_list ws_M_list (am_rm 6 o) [.ref 18, .int x1, .int x2] (hL ll he de li en po pw su wr cs wb bt ct lc ad ctb lcb adb fx us ln pt tx br rw on dd mw cu ty mh md dk op th sp mp mf ml ps nm mu ch wy nx ou) o (hL ll he de li en po pw su wr cs wb bt ct lc ad ctb lcb adb fx us ln pt tx br rw on r.2.1 mw cu ty mh md dk op r.2.2 sp mp mf ml ps nm mu ch wy nx ou) :=
  s_M_list (hx := hX ll he de li en po pw su wr cs wb bt ct lc ad ctb lcb adb fx us ln pt tx br rw) (rest := [.inl (.long, 1, .inr (.inl ou))]) htr hf ho
theorem t_M_cut {l : Launch} {D : va_G} {dA : FieldType → ClassId} (htr : l.stackTraces = false) {ll : Int32} {he : Int32} {de : Int32} {li : Nat → Int32} {en : Nat → Int32} {po : Nat → Int32} {pw : Int32} {su : Int32} {wr : Int32} {cs : Int32} {wb : Int32} {bt : Nat → Int32} {ct : Int32} {lc : Int32} {ad : Nat → Int32} {ctb : Int32} {lcb : Int32} {adb : Nat → Int32} {fx : Int32} {us : Nat → Int32} {ln : Int32} {pt : Int32} {tx : Nat → Int32} {br : Nat → Int32} {rw : Nat → Int32} {on : Int32} {dd : Int32} {mw : Int32} {cu : Int32} {ty : Int32} {mh : Int32} {md : Int32} {dk : Nat → Int32} {op : Nat → Int32} {th : Int32} {sp : Int32} {mp : Int32} {mf : Int32} {ml : Nat → Int32} {ps : Nat → Int32} {nm : Nat → Int32} {mu : Nat → Int32} {ch : Nat → Int32} {wy : Nat → Int32} {nx : Nat → Int32} {ou : Nat → Int64} {x1 : Int32} {r : Int32 × Int32 × Int32} (hf : f_M_cut on cu th x1 = some r) {o : am_O} (ho : .inl (some (.int r.1)) = o) :
    am_M (am_kk l D dA) y_M_cut ws_M_cut (am_rm 0 o) [.ref 18, .int x1] (hL ll he de li en po pw su wr cs wb bt ct lc ad ctb lcb adb fx us ln pt tx br rw on dd mw cu ty mh md dk op th sp mp mf ml ps nm mu ch wy nx ou) o (hL ll he de li en po pw su wr cs wb bt ct lc ad ctb lcb adb fx us ln pt tx br rw on dd mw r.2.1 ty mh md dk op r.2.2 sp mp mf ml ps nm mu ch wy nx ou) :=
  s_M_cut (hx := hX ll he de li en po pw su wr cs wb bt ct lc ad ctb lcb adb fx us ln pt tx br rw) (rest := [.inl (.long, 1, .inr (.inl ou))]) htr hf ho
theorem t_M_power {l : Launch} {D : va_G} {dA : FieldType → ClassId} (htr : l.stackTraces = false) {ll : Int32} {he : Int32} {de : Int32} {li : Nat → Int32} {en : Nat → Int32} {po : Nat → Int32} {pw : Int32} {su : Int32} {wr : Int32} {cs : Int32} {wb : Int32} {bt : Nat → Int32} {ct : Int32} {lc : Int32} {ad : Nat → Int32} {ctb : Int32} {lcb : Int32} {adb : Nat → Int32} {fx : Int32} {us : Nat → Int32} {ln : Int32} {pt : Int32} {tx : Nat → Int32} {br : Nat → Int32} {rw : Nat → Int32} {on : Int32} {dd : Int32} {mw : Int32} {cu : Int32} {ty : Int32} {mh : Int32} {md : Int32} {dk : Nat → Int32} {op : Nat → Int32} {th : Int32} {sp : Int32} {mp : Int32} {mf : Int32} {ml : Nat → Int32} {ps : Nat → Int32} {nm : Nat → Int32} {mu : Nat → Int32} {ch : Nat → Int32} {wy : Nat → Int32} {nx : Nat → Int32} {ou : Nat → Int64} {r : Int32 × Int32 × Int32} (hf : f_M_power on th = some r) {o : am_O} (ho : .inl (some (.int r.1)) = o) :
    am_M (am_kk l D dA) y_M_power ws_M_power (am_rm 0 o) [.ref 18] (hL ll he de li en po pw su wr cs wb bt ct lc ad ctb lcb adb fx us ln pt tx br rw on dd mw cu ty mh md dk op th sp mp mf ml ps nm mu ch wy nx ou) o (hL ll he de li en po pw su wr cs wb bt ct lc ad ctb lcb adb fx us ln pt tx br rw r.2.1 dd mw cu ty mh md dk op r.2.2 sp mp mf ml ps nm mu ch wy nx ou) :=
  s_M_power (hx := hX ll he de li en po pw su wr cs wb bt ct lc ad ctb lcb adb fx us ln pt tx br rw) (rest := [.inl (.long, 1, .inr (.inl ou))]) htr hf ho
theorem t_M_repair {l : Launch} {D : va_G} {dA : FieldType → ClassId} (htr : l.stackTraces = false) {ll : Int32} {he : Int32} {de : Int32} {li : Nat → Int32} {en : Nat → Int32} {po : Nat → Int32} {pw : Int32} {su : Int32} {wr : Int32} {cs : Int32} {wb : Int32} {bt : Nat → Int32} {ct : Int32} {lc : Int32} {ad : Nat → Int32} {ctb : Int32} {lcb : Int32} {adb : Nat → Int32} {fx : Int32} {us : Nat → Int32} {ln : Int32} {pt : Int32} {tx : Nat → Int32} {br : Nat → Int32} {rw : Nat → Int32} {th : Int32} {sp : Int32} {mp : Int32} {mf : Int32} {ml : Nat → Int32} {ps : Nat → Int32} {nm : Nat → Int32} {mu : Nat → Int32} {ch : Nat → Int32} {wy : Nat → Int32} {nx : Nat → Int32} {w : am_MS} {ou : Nat → Int64} {r : Int32 × am_MS × Int32 × Int32 × Int32 × (Nat → Int32) × (Nat → Int32) × (Nat → Int32) × (Nat → Int32)} (hf : f_M_repair w th sp mf mu ch wy nx = some r) {o : am_O} (ho : .inl (some (.int r.1)) = o) :
    am_M (am_kk l D dA) y_M_repair ws_M_repair (am_rm 7 o) [.ref 18] (hL ll he de li en po pw su wr cs wb bt ct lc ad ctb lcb adb fx us ln pt tx br rw w.1 w.2.1 w.2.2.1 w.2.2.2.1 w.2.2.2.2.1 w.2.2.2.2.2.1 w.2.2.2.2.2.2.1 w.2.2.2.2.2.2.2.1 w.2.2.2.2.2.2.2.2 th sp mp mf ml ps nm mu ch wy nx ou) o (hL ll he de li en po pw su wr cs wb bt ct lc ad ctb lcb adb fx us ln pt tx br rw r.2.1.1 r.2.1.2.1 r.2.1.2.2.1 r.2.1.2.2.2.1 r.2.1.2.2.2.2.1 r.2.1.2.2.2.2.2.1 r.2.1.2.2.2.2.2.2.1 r.2.1.2.2.2.2.2.2.2.1 r.2.1.2.2.2.2.2.2.2.2 r.2.2.1 r.2.2.2.1 mp r.2.2.2.2.1 ml ps nm r.2.2.2.2.2.1 r.2.2.2.2.2.2.1 r.2.2.2.2.2.2.2.1 r.2.2.2.2.2.2.2.2 ou) :=
  s_M_repair (hx := hX ll he de li en po pw su wr cs wb bt ct lc ad ctb lcb adb fx us ln pt tx br rw) (rest := [.inl (.long, 1, .inr (.inl ou))]) htr hf ho
theorem t_M_octet {l : Launch} {D : va_G} {dA : FieldType → ClassId} (htr : l.stackTraces = false) {ll : Int32} {he : Int32} {de : Int32} {li : Nat → Int32} {en : Nat → Int32} {po : Nat → Int32} {pw : Int32} {su : Int32} {wr : Int32} {cs : Int32} {wb : Int32} {bt : Nat → Int32} {ct : Int32} {lc : Int32} {ad : Nat → Int32} {ctb : Int32} {lcb : Int32} {adb : Nat → Int32} {fx : Int32} {us : Nat → Int32} {ln : Int32} {pt : Int32} {tx : Nat → Int32} {br : Nat → Int32} {rw : Nat → Int32} {on : Int32} {dd : Int32} {mw : Int32} {cu : Int32} {ty : Int32} {mh : Int32} {md : Int32} {dk : Nat → Int32} {op : Nat → Int32} {th : Int32} {sp : Int32} {mp : Int32} {mf : Int32} {ml : Nat → Int32} {ps : Nat → Int32} {nm : Nat → Int32} {mu : Nat → Int32} {ch : Nat → Int32} {wy : Nat → Int32} {nx : Nat → Int32} {ou : Nat → Int64} {x1 : Int32} {x2 : Int32} {r : Int32 × Int32} (hf : f_M_octet dk th x1 x2 = some r) {o : am_O} (ho : .inl (some (.int r.1)) = o) :
    am_M (am_kk l D dA) y_M_octet ws_M_octet (am_rm 1 o) [.ref 18, .int x1, .int x2] (hL ll he de li en po pw su wr cs wb bt ct lc ad ctb lcb adb fx us ln pt tx br rw on dd mw cu ty mh md dk op th sp mp mf ml ps nm mu ch wy nx ou) o (hL ll he de li en po pw su wr cs wb bt ct lc ad ctb lcb adb fx us ln pt tx br rw on dd mw cu ty mh md dk op r.2 sp mp mf ml ps nm mu ch wy nx ou) :=
  s_M_octet (hx := hX ll he de li en po pw su wr cs wb bt ct lc ad ctb lcb adb fx us ln pt tx br rw) (rest := [.inl (.long, 1, .inr (.inl ou))]) htr hf ho
theorem t_M_poke {l : Launch} {D : va_G} {dA : FieldType → ClassId} (htr : l.stackTraces = false) {ll : Int32} {he : Int32} {de : Int32} {li : Nat → Int32} {en : Nat → Int32} {po : Nat → Int32} {pw : Int32} {su : Int32} {wr : Int32} {cs : Int32} {wb : Int32} {bt : Nat → Int32} {ct : Int32} {lc : Int32} {ad : Nat → Int32} {ctb : Int32} {lcb : Int32} {adb : Nat → Int32} {fx : Int32} {us : Nat → Int32} {ln : Int32} {pt : Int32} {tx : Nat → Int32} {br : Nat → Int32} {rw : Nat → Int32} {on : Int32} {dd : Int32} {mw : Int32} {cu : Int32} {ty : Int32} {mh : Int32} {md : Int32} {dk : Nat → Int32} {op : Nat → Int32} {th : Int32} {sp : Int32} {mp : Int32} {mf : Int32} {ml : Nat → Int32} {ps : Nat → Int32} {nm : Nat → Int32} {mu : Nat → Int32} {ch : Nat → Int32} {wy : Nat → Int32} {nx : Nat → Int32} {ou : Nat → Int64} {x1 : Int32} {x2 : Int32} {x3 : Int32} {r : Int32 × Int32 × Int32 × (Nat → Int32) × (Nat → Int32) × Int32 × Int32} (hf : f_M_poke mh md dk op th sp x1 x2 x3 = some r) {o : am_O} (ho : .inl (some (.int r.1)) = o) :
    am_M (am_kk l D dA) y_M_poke ws_M_poke (am_rm 1 o) [.ref 18, .int x1, .int x2, .int x3] (hL ll he de li en po pw su wr cs wb bt ct lc ad ctb lcb adb fx us ln pt tx br rw on dd mw cu ty mh md dk op th sp mp mf ml ps nm mu ch wy nx ou) o (hL ll he de li en po pw su wr cs wb bt ct lc ad ctb lcb adb fx us ln pt tx br rw on dd mw cu ty r.2.1 r.2.2.1 r.2.2.2.1 r.2.2.2.2.1 r.2.2.2.2.2.1 r.2.2.2.2.2.2 mp mf ml ps nm mu ch wy nx ou) :=
  s_M_poke (hx := hX ll he de li en po pw su wr cs wb bt ct lc ad ctb lcb adb fx us ln pt tx br rw) (rest := [.inl (.long, 1, .inr (.inl ou))]) htr hf ho
theorem t_M_look {l : Launch} {D : va_G} {dA : FieldType → ClassId} (htr : l.stackTraces = false) {ll : Int32} {he : Int32} {de : Int32} {li : Nat → Int32} {en : Nat → Int32} {po : Nat → Int32} {pw : Int32} {su : Int32} {wr : Int32} {cs : Int32} {wb : Int32} {bt : Nat → Int32} {ct : Int32} {lc : Int32} {ad : Nat → Int32} {ctb : Int32} {lcb : Int32} {adb : Nat → Int32} {fx : Int32} {us : Nat → Int32} {ln : Int32} {pt : Int32} {tx : Nat → Int32} {br : Nat → Int32} {rw : Nat → Int32} {on : Int32} {dd : Int32} {mw : Int32} {cu : Int32} {ty : Int32} {mh : Int32} {md : Int32} {dk : Nat → Int32} {op : Nat → Int32} {th : Int32} {sp : Int32} {mp : Int32} {mf : Int32} {ml : Nat → Int32} {ps : Nat → Int32} {nm : Nat → Int32} {mu : Nat → Int32} {ch : Nat → Int32} {wy : Nat → Int32} {nx : Nat → Int32} {ou : Nat → Int64} {x1 : Int32} {r : Int32 × Int32} (hf : f_M_look on mw ty mh dk op th ps x1 = some r) {o : am_O} (ho : .inl (some (.int r.1)) = o) :
    am_M (am_kk l D dA) y_M_look ws_M_look (am_rm 2 o) [.ref 18, .int x1] (hL ll he de li en po pw su wr cs wb bt ct lc ad ctb lcb adb fx us ln pt tx br rw on dd mw cu ty mh md dk op th sp mp mf ml ps nm mu ch wy nx ou) o (hL ll he de li en po pw su wr cs wb bt ct lc ad ctb lcb adb fx us ln pt tx br rw on dd mw cu ty mh md dk op r.2 sp mp mf ml ps nm mu ch wy nx ou) :=
  s_M_look (hx := hX ll he de li en po pw su wr cs wb bt ct lc ad ctb lcb adb fx us ln pt tx br rw) (rest := [.inl (.long, 1, .inr (.inl ou))]) htr hf ho
def f_H_create (g : am_WS) (li : Nat → Int32) (su : Int32) (ct : Int32) (lc : Int32) (ad : Nat → Int32) (ln : Int32) (pt : Int32) (tx : Nat → Int32) (br : Nat → Int32) (rw : Nat → Int32) (x1 : Int32) : Option (Int32 × am_WS × Int32 × Int32 × (Nat → Int32) × Int32 × Int32 × (Nat → Int32) × (Nat → Int32) × (Nat → Int32)) :=
  ((f_V_create g li su ct lc ad ln pt tx br rw x1).bind fun r1 => am_t r1.1 (fun E1 => (if E1 = "java/lang/IllegalStateException" then some (1, r1.2.1, r1.2.2.1, r1.2.2.2.1, r1.2.2.2.2.1, r1.2.2.2.2.2.1, r1.2.2.2.2.2.2.1, r1.2.2.2.2.2.2.2.1, r1.2.2.2.2.2.2.2.2.1, r1.2.2.2.2.2.2.2.2.2) else (if E1 = "java/lang/IllegalArgumentException" then some (2, r1.2.1, r1.2.2.1, r1.2.2.2.1, r1.2.2.2.2.1, r1.2.2.2.2.2.1, r1.2.2.2.2.2.2.1, r1.2.2.2.2.2.2.2.1, r1.2.2.2.2.2.2.2.2.1, r1.2.2.2.2.2.2.2.2.2) else (if E1 = "java/lang/UnsupportedOperationException" then some (3, r1.2.1, r1.2.2.1, r1.2.2.2.1, r1.2.2.2.2.1, r1.2.2.2.2.2.1, r1.2.2.2.2.2.2.1, r1.2.2.2.2.2.2.2.1, r1.2.2.2.2.2.2.2.2.1, r1.2.2.2.2.2.2.2.2.2) else none)))) (fun _ => some (0, r1.2.1, r1.2.2.1, r1.2.2.2.1, r1.2.2.2.2.1, r1.2.2.2.2.2.1, r1.2.2.2.2.2.2.1, r1.2.2.2.2.2.2.2.1, r1.2.2.2.2.2.2.2.2.1, r1.2.2.2.2.2.2.2.2.2)))
set_option maxHeartbeats 4000000 in
set_option maxRecDepth 100000 in
theorem s_H_create {l : Launch} {D : va_G} {dA : FieldType → ClassId} (htr : l.stackTraces = false) {li : Nat → Int32} {su : Int32} {ct : Int32} {lc : Int32} {ad : Nat → Int32} {ctb : Int32} {lcb : Int32} {adb : Nat → Int32} {fx : Int32} {us : Nat → Int32} {ln : Int32} {pt : Int32} {tx : Nat → Int32} {br : Nat → Int32} {rw : Nat → Int32} {on : Int32} {dd : Int32} {mw : Int32} {cu : Int32} {ty : Int32} {mh : Int32} {md : Int32} {dk : Nat → Int32} {op : Nat → Int32} {th : Int32} {sp : Int32} {mp : Int32} {mf : Int32} {ml : Nat → Int32} {ps : Nat → Int32} {nm : Nat → Int32} {mu : Nat → Int32} {ch : Nat → Int32} {wy : Nat → Int32} {nx : Nat → Int32} {ou : Nat → Int64} {g : am_WS} {x1 : Int32} {r : Int32 × am_WS × Int32 × Int32 × (Nat → Int32) × Int32 × Int32 × (Nat → Int32) × (Nat → Int32) × (Nat → Int32)} (hf : f_H_create g li su ct lc ad ln pt tx br rw x1 = some r) {o : am_O} (ho : .inl (some (.int r.1)) = o) :
    am_M (am_kk l D dA) y_L_create ws_L_create (am_hr 8) [.ref 0, .int x1] (hL g.1 g.2.1 g.2.2.1 li g.2.2.2.1 g.2.2.2.2.1 g.2.2.2.2.2.1 su g.2.2.2.2.2.2.1 g.2.2.2.2.2.2.2.1 g.2.2.2.2.2.2.2.2.1 g.2.2.2.2.2.2.2.2.2 ct lc ad ctb lcb adb fx us ln pt tx br rw on dd mw cu ty mh md dk op th sp mp mf ml ps nm mu ch wy nx ou) o (hL r.2.1.1 r.2.1.2.1 r.2.1.2.2.1 li r.2.1.2.2.2.1 r.2.1.2.2.2.2.1 r.2.1.2.2.2.2.2.1 su r.2.1.2.2.2.2.2.2.1 r.2.1.2.2.2.2.2.2.2.1 r.2.1.2.2.2.2.2.2.2.2.1 r.2.1.2.2.2.2.2.2.2.2.2 r.2.2.1 r.2.2.2.1 r.2.2.2.2.1 ctb lcb adb fx us r.2.2.2.2.2.1 r.2.2.2.2.2.2.1 r.2.2.2.2.2.2.2.1 r.2.2.2.2.2.2.2.2.1 r.2.2.2.2.2.2.2.2.2 on dd mw cu ty mh md dk op th sp mp mf ml ps nm mu ch wy nx ou) := by
  subst ho
  refine am_bodyW (by decide) rfl (Nat.le_of_ble_eq_true rfl) rfl ?_
  rw [f_H_create] at hf
  refine g_aload_n (n := 1) d_L_create_0 rfl 0 rfl rfl ?_
  refine g_iload_n (n := 2) d_L_create_1 rfl 1 rfl rfl ?_
  obtain ⟨r1, h1, hf⟩ := ob_bind hf
  rcases ob_t hf with ⟨E1, w1, hf⟩ | ⟨v1, w1, hf⟩
  · refine c_Vh [.int x1] [] d_L_create_2 (s_V_create htr h1 (by rw [w1]; rfl)) tw_301 tw_302 tw_303 tw_1 tw_304 hd_V_create ⟨by decide, by decide⟩ (ci := 6) rfl rfl rfl (Nat.le_of_ble_eq_true rfl) rfl ?_
    by_cases q0 : E1 = "java/lang/IllegalStateException"
    · have hf := ob_pos q0 hf
      subst q0
      cases hf
      refine g_catch (n := 9) (i := 2) [] ⟨0, 5, 8, 13⟩ [⟨0, 5, 11, 15⟩, ⟨0, 5, 14, 17⟩] rfl (by decide) (by decide) (List.mem_cons_of_mem _ tw_298) am_pre0 (Or.inl ⟨2, d_L_create_8, rfl, rfl⟩) (am_ltb rfl) ?_
      refine g_iconst (n := 10) (v := 1) d_L_create_9 rfl (by decide) ?_
      exact g_iret d_L_create_10 rfl (Nat.le_refl _) (Nat.le_refl _)
    · have hf := ob_neg q0 hf
      by_cases q1 : E1 = "java/lang/IllegalArgumentException"
      · have hf := ob_pos q1 hf
        subst q1
        cases hf
        refine g_catch (n := 12) (i := 2) [⟨0, 5, 8, 13⟩] ⟨0, 5, 11, 15⟩ [⟨0, 5, 14, 17⟩] rfl (by decide) (by decide) (List.mem_cons_of_mem _ tw_299) (am_preC (am_prow (by decide) (by decide) (List.mem_cons_of_mem _ tw_298) (List.mem_of_getElem? (i := 8) rfl)) am_pre0) (Or.inl ⟨2, d_L_create_11, rfl, rfl⟩) (am_ltb rfl) ?_
        refine g_iconst (n := 13) (v := 2) d_L_create_12 rfl (by decide) ?_
        exact g_iret d_L_create_13 rfl (Nat.le_refl _) (Nat.le_refl _)
      · have hf := ob_neg q1 hf
        by_cases q2 : E1 = "java/lang/UnsupportedOperationException"
        · have hf := ob_pos q2 hf
          subst q2
          cases hf
          refine g_catch (n := 15) (i := 2) [⟨0, 5, 8, 13⟩, ⟨0, 5, 11, 15⟩] ⟨0, 5, 14, 17⟩ [] rfl (by decide) (by decide) (List.mem_cons_of_mem _ tw_300) (am_preC (am_prow (by decide) (by decide) (List.mem_cons_of_mem _ tw_298) (List.mem_of_getElem? (i := 12) rfl)) (am_preC (am_prow (by decide) (by decide) (List.mem_cons_of_mem _ tw_299) (List.mem_of_getElem? (i := 13) rfl)) am_pre0)) (Or.inl ⟨2, d_L_create_14, rfl, rfl⟩) (am_ltb rfl) ?_
          refine g_iconst (n := 16) (v := 3) d_L_create_15 rfl (by decide) ?_
          exact g_iret d_L_create_16 rfl (Nat.le_refl _) (Nat.le_refl _)
        · have hf := ob_neg q2 hf
          cases hf
  · cases hf
    refine c_Vl (n := 5) (st' := []) [.int x1] [] d_L_create_2 rfl (s_V_create htr h1 (by rw [w1]; rfl)) tw_301 tw_302 tw_303 tw_1 tw_304 hd_V_create ⟨by decide, by decide⟩ (Nat.zero_le _) (Nat.zero_le _) (ci := 6) rfl rfl rfl (Nat.le_of_ble_eq_true rfl) rfl rfl ?_
    refine g_goto (n := 17) d_L_create_5 (by decide) ?_
    refine g_iconst (n := 18) (v := 0) d_L_create_17 rfl (by decide) ?_
    exact g_iret d_L_create_18 rfl (Nat.zero_le _) (Nat.zero_le _)
def f_H_delete (g : am_WS) (li : Nat → Int32) (su : Int32) (ct : Int32) (lc : Int32) (ad : Nat → Int32) (ctb : Int32) (lcb : Int32) (adb : Nat → Int32) (ln : Int32) (tx : Nat → Int32)  : Option (Int32 × am_WS × Int32 × Int32 × (Nat → Int32) × Int32 × Int32 × (Nat → Int32) × Int32 × (Nat → Int32)) :=
  ((f_V_delete g li su ct lc ad ctb lcb adb ln tx).bind fun r1 => am_t r1.1 (fun E1 => (if E1 = "java/lang/IllegalStateException" then some (1, r1.2.1, r1.2.2.1, r1.2.2.2.1, r1.2.2.2.2.1, r1.2.2.2.2.2.1, r1.2.2.2.2.2.2.1, r1.2.2.2.2.2.2.2.1, r1.2.2.2.2.2.2.2.2.1, r1.2.2.2.2.2.2.2.2.2) else (if E1 = "java/util/NoSuchElementException" then some (2, r1.2.1, r1.2.2.1, r1.2.2.2.1, r1.2.2.2.2.1, r1.2.2.2.2.2.1, r1.2.2.2.2.2.2.1, r1.2.2.2.2.2.2.2.1, r1.2.2.2.2.2.2.2.2.1, r1.2.2.2.2.2.2.2.2.2) else (if E1 = "java/lang/UnsupportedOperationException" then some (3, r1.2.1, r1.2.2.1, r1.2.2.2.1, r1.2.2.2.2.1, r1.2.2.2.2.2.1, r1.2.2.2.2.2.2.1, r1.2.2.2.2.2.2.2.1, r1.2.2.2.2.2.2.2.2.1, r1.2.2.2.2.2.2.2.2.2) else none)))) (fun _ => some (0, r1.2.1, r1.2.2.1, r1.2.2.2.1, r1.2.2.2.2.1, r1.2.2.2.2.2.1, r1.2.2.2.2.2.2.1, r1.2.2.2.2.2.2.2.1, r1.2.2.2.2.2.2.2.2.1, r1.2.2.2.2.2.2.2.2.2)))
set_option maxHeartbeats 4000000 in
set_option maxRecDepth 100000 in
theorem s_H_delete {l : Launch} {D : va_G} {dA : FieldType → ClassId} (htr : l.stackTraces = false) {li : Nat → Int32} {su : Int32} {ct : Int32} {lc : Int32} {ad : Nat → Int32} {ctb : Int32} {lcb : Int32} {adb : Nat → Int32} {fx : Int32} {us : Nat → Int32} {ln : Int32} {pt : Int32} {tx : Nat → Int32} {br : Nat → Int32} {rw : Nat → Int32} {on : Int32} {dd : Int32} {mw : Int32} {cu : Int32} {ty : Int32} {mh : Int32} {md : Int32} {dk : Nat → Int32} {op : Nat → Int32} {th : Int32} {sp : Int32} {mp : Int32} {mf : Int32} {ml : Nat → Int32} {ps : Nat → Int32} {nm : Nat → Int32} {mu : Nat → Int32} {ch : Nat → Int32} {wy : Nat → Int32} {nx : Nat → Int32} {ou : Nat → Int64} {g : am_WS}  {r : Int32 × am_WS × Int32 × Int32 × (Nat → Int32) × Int32 × Int32 × (Nat → Int32) × Int32 × (Nat → Int32)} (hf : f_H_delete g li su ct lc ad ctb lcb adb ln tx = some r) {o : am_O} (ho : .inl (some (.int r.1)) = o) :
    am_M (am_kk l D dA) y_L_delete ws_L_delete (am_hr 8) [.ref 0] (hL g.1 g.2.1 g.2.2.1 li g.2.2.2.1 g.2.2.2.2.1 g.2.2.2.2.2.1 su g.2.2.2.2.2.2.1 g.2.2.2.2.2.2.2.1 g.2.2.2.2.2.2.2.2.1 g.2.2.2.2.2.2.2.2.2 ct lc ad ctb lcb adb fx us ln pt tx br rw on dd mw cu ty mh md dk op th sp mp mf ml ps nm mu ch wy nx ou) o (hL r.2.1.1 r.2.1.2.1 r.2.1.2.2.1 li r.2.1.2.2.2.1 r.2.1.2.2.2.2.1 r.2.1.2.2.2.2.2.1 su r.2.1.2.2.2.2.2.2.1 r.2.1.2.2.2.2.2.2.2.1 r.2.1.2.2.2.2.2.2.2.2.1 r.2.1.2.2.2.2.2.2.2.2.2 r.2.2.1 r.2.2.2.1 r.2.2.2.2.1 r.2.2.2.2.2.1 r.2.2.2.2.2.2.1 r.2.2.2.2.2.2.2.1 fx us r.2.2.2.2.2.2.2.2.1 pt r.2.2.2.2.2.2.2.2.2 br rw on dd mw cu ty mh md dk op th sp mp mf ml ps nm mu ch wy nx ou) := by
  subst ho
  refine am_bodyW (by decide) rfl (Nat.le_of_ble_eq_true rfl) rfl ?_
  rw [f_H_delete] at hf
  refine g_aload_n (n := 1) d_L_delete_0 rfl 0 rfl rfl ?_
  obtain ⟨r1, h1, hf⟩ := ob_bind hf
  rcases ob_t hf with ⟨E1, w1, hf⟩ | ⟨v1, w1, hf⟩
  · refine c_Vh [] [] d_L_delete_1 (s_V_delete htr h1 (by rw [w1]; rfl)) tw_596 tw_597 tw_598 tw_1 tw_599 hd_V_delete ⟨by decide, by decide⟩ (ci := 6) rfl rfl rfl (Nat.le_of_ble_eq_true rfl) rfl ?_
    by_cases q0 : E1 = "java/lang/IllegalStateException"
    · have hf := ob_pos q0 hf
      subst q0
      cases hf
      refine g_catch (n := 8) (i := 1) [] ⟨0, 4, 7, 13⟩ [⟨0, 4, 10, 22⟩, ⟨0, 4, 13, 17⟩] rfl (by decide) (by decide) (List.mem_cons_of_mem _ tw_298) am_pre0 (Or.inl ⟨1, d_L_delete_7, rfl, rfl⟩) (am_ltb rfl) ?_
      refine g_iconst (n := 9) (v := 1) d_L_delete_8 rfl (by decide) ?_
      exact g_iret d_L_delete_9 rfl (Nat.le_refl _) (Nat.le_refl _)
    · have hf := ob_neg q0 hf
      by_cases q1 : E1 = "java/util/NoSuchElementException"
      · have hf := ob_pos q1 hf
        subst q1
        cases hf
        refine g_catch (n := 11) (i := 1) [⟨0, 4, 7, 13⟩] ⟨0, 4, 10, 22⟩ [⟨0, 4, 13, 17⟩] rfl (by decide) (by decide) (List.mem_cons_of_mem _ tw_595) (am_preC (am_prow (by decide) (by decide) (List.mem_cons_of_mem _ tw_298) (List.mem_of_getElem? (i := 16) rfl)) am_pre0) (Or.inl ⟨1, d_L_delete_10, rfl, rfl⟩) (am_ltb rfl) ?_
        refine g_iconst (n := 12) (v := 2) d_L_delete_11 rfl (by decide) ?_
        exact g_iret d_L_delete_12 rfl (Nat.le_refl _) (Nat.le_refl _)
      · have hf := ob_neg q1 hf
        by_cases q2 : E1 = "java/lang/UnsupportedOperationException"
        · have hf := ob_pos q2 hf
          subst q2
          cases hf
          refine g_catch (n := 14) (i := 1) [⟨0, 4, 7, 13⟩, ⟨0, 4, 10, 22⟩] ⟨0, 4, 13, 17⟩ [] rfl (by decide) (by decide) (List.mem_cons_of_mem _ tw_300) (am_preC (am_prow (by decide) (by decide) (List.mem_cons_of_mem _ tw_298) (List.mem_of_getElem? (i := 12) rfl)) (am_preC (am_prow (by decide) (by decide) (List.mem_cons_of_mem _ tw_595) (List.mem_of_getElem? (i := 14) rfl)) am_pre0)) (Or.inl ⟨1, d_L_delete_13, rfl, rfl⟩) (am_ltb rfl) ?_
          refine g_iconst (n := 15) (v := 3) d_L_delete_14 rfl (by decide) ?_
          exact g_iret d_L_delete_15 rfl (Nat.le_refl _) (Nat.le_refl _)
        · have hf := ob_neg q2 hf
          cases hf
  · cases hf
    refine c_Vl (n := 4) (st' := []) [] [] d_L_delete_1 rfl (s_V_delete htr h1 (by rw [w1]; rfl)) tw_596 tw_597 tw_598 tw_1 tw_599 hd_V_delete ⟨by decide, by decide⟩ (Nat.zero_le _) (Nat.zero_le _) (ci := 6) rfl rfl rfl (Nat.le_of_ble_eq_true rfl) rfl rfl ?_
    refine g_goto (n := 16) d_L_delete_4 (by decide) ?_
    refine g_iconst (n := 17) (v := 0) d_L_delete_16 rfl (by decide) ?_
    exact g_iret d_L_delete_17 rfl (Nat.zero_le _) (Nat.zero_le _)
def f_H_enter (ll : Int32) (he : Int32) (de : Int32) (li : Nat → Int32) (pw : Int32) (su : Int32) (bt : Nat → Int32) (ct : Int32) (lc : Int32) (ad : Nat → Int32) (ln : Int32) (tx : Nat → Int32)  : Option (Int32 × Int32 × Int32 × Int32 × Int32 × Int32 × (Nat → Int32) × Int32 × (Nat → Int32)) :=
  ((f_V_enter ll he de li pw su bt ct lc ad ln tx).bind fun r1 => am_t r1.1 (fun E1 => (if E1 = "java/lang/IllegalStateException" then some (1, r1.2.1, r1.2.2.1, r1.2.2.2.1, r1.2.2.2.2.1, r1.2.2.2.2.2.1, r1.2.2.2.2.2.2.1, r1.2.2.2.2.2.2.2.1, r1.2.2.2.2.2.2.2.2) else (if E1 = "java/util/NoSuchElementException" then some (2, r1.2.1, r1.2.2.1, r1.2.2.2.1, r1.2.2.2.2.1, r1.2.2.2.2.2.1, r1.2.2.2.2.2.2.1, r1.2.2.2.2.2.2.2.1, r1.2.2.2.2.2.2.2.2) else none))) (fun _ => some (0, r1.2.1, r1.2.2.1, r1.2.2.2.1, r1.2.2.2.2.1, r1.2.2.2.2.2.1, r1.2.2.2.2.2.2.1, r1.2.2.2.2.2.2.2.1, r1.2.2.2.2.2.2.2.2)))
set_option maxHeartbeats 4000000 in
set_option maxRecDepth 100000 in
theorem s_H_enter {l : Launch} {D : va_G} {dA : FieldType → ClassId} (htr : l.stackTraces = false) {ll : Int32} {he : Int32} {de : Int32} {li : Nat → Int32} {en : Nat → Int32} {po : Nat → Int32} {pw : Int32} {su : Int32} {wr : Int32} {cs : Int32} {wb : Int32} {bt : Nat → Int32} {ct : Int32} {lc : Int32} {ad : Nat → Int32} {ctb : Int32} {lcb : Int32} {adb : Nat → Int32} {fx : Int32} {us : Nat → Int32} {ln : Int32} {pt : Int32} {tx : Nat → Int32} {br : Nat → Int32} {rw : Nat → Int32} {on : Int32} {dd : Int32} {mw : Int32} {cu : Int32} {ty : Int32} {mh : Int32} {md : Int32} {dk : Nat → Int32} {op : Nat → Int32} {th : Int32} {sp : Int32} {mp : Int32} {mf : Int32} {ml : Nat → Int32} {ps : Nat → Int32} {nm : Nat → Int32} {mu : Nat → Int32} {ch : Nat → Int32} {wy : Nat → Int32} {nx : Nat → Int32} {ou : Nat → Int64}   {r : Int32 × Int32 × Int32 × Int32 × Int32 × Int32 × (Nat → Int32) × Int32 × (Nat → Int32)} (hf : f_H_enter ll he de li pw su bt ct lc ad ln tx = some r) {o : am_O} (ho : .inl (some (.int r.1)) = o) :
    am_M (am_kk l D dA) y_L_enter ws_L_enter (am_hr 8) [.ref 0] (hL ll he de li en po pw su wr cs wb bt ct lc ad ctb lcb adb fx us ln pt tx br rw on dd mw cu ty mh md dk op th sp mp mf ml ps nm mu ch wy nx ou) o (hL r.2.1 r.2.2.1 r.2.2.2.1 li en po pw su wr cs wb bt r.2.2.2.2.1 r.2.2.2.2.2.1 r.2.2.2.2.2.2.1 ctb lcb adb fx us r.2.2.2.2.2.2.2.1 pt r.2.2.2.2.2.2.2.2 br rw on dd mw cu ty mh md dk op th sp mp mf ml ps nm mu ch wy nx ou) := by
  subst ho
  refine am_bodyW (by decide) rfl (Nat.le_of_ble_eq_true rfl) rfl ?_
  rw [f_H_enter] at hf
  refine g_aload_n (n := 1) d_L_enter_0 rfl 0 rfl rfl ?_
  obtain ⟨r1, h1, hf⟩ := ob_bind hf
  rcases ob_t hf with ⟨E1, w1, hf⟩ | ⟨v1, w1, hf⟩
  · refine c_Vh [] [] d_L_enter_1 (s_V_enter htr h1 (by rw [w1]; rfl)) tw_656 tw_657 tw_658 tw_1 tw_659 hd_V_enter ⟨by decide, by decide⟩ (ci := 6) rfl rfl rfl (Nat.le_of_ble_eq_true rfl) rfl ?_
    by_cases q0 : E1 = "java/lang/IllegalStateException"
    · have hf := ob_pos q0 hf
      subst q0
      cases hf
      refine g_catch (n := 8) (i := 1) [] ⟨0, 4, 7, 13⟩ [⟨0, 4, 10, 22⟩] rfl (by decide) (by decide) (List.mem_cons_of_mem _ tw_298) am_pre0 (Or.inl ⟨1, d_L_enter_7, rfl, rfl⟩) (am_ltb rfl) ?_
      refine g_iconst (n := 9) (v := 1) d_L_enter_8 rfl (by decide) ?_
      exact g_iret d_L_enter_9 rfl (Nat.le_refl _) (Nat.le_refl _)
    · have hf := ob_neg q0 hf
      by_cases q1 : E1 = "java/util/NoSuchElementException"
      · have hf := ob_pos q1 hf
        subst q1
        cases hf
        refine g_catch (n := 11) (i := 1) [⟨0, 4, 7, 13⟩] ⟨0, 4, 10, 22⟩ [] rfl (by decide) (by decide) (List.mem_cons_of_mem _ tw_595) (am_preC (am_prow (by decide) (by decide) (List.mem_cons_of_mem _ tw_298) (List.mem_of_getElem? (i := 16) rfl)) am_pre0) (Or.inl ⟨1, d_L_enter_10, rfl, rfl⟩) (am_ltb rfl) ?_
        refine g_iconst (n := 12) (v := 2) d_L_enter_11 rfl (by decide) ?_
        exact g_iret d_L_enter_12 rfl (Nat.le_refl _) (Nat.le_refl _)
      · have hf := ob_neg q1 hf
        cases hf
  · cases hf
    refine c_Vl (n := 4) (st' := []) [] [] d_L_enter_1 rfl (s_V_enter htr h1 (by rw [w1]; rfl)) tw_656 tw_657 tw_658 tw_1 tw_659 hd_V_enter ⟨by decide, by decide⟩ (Nat.zero_le _) (Nat.zero_le _) (ci := 6) rfl rfl rfl (Nat.le_of_ble_eq_true rfl) rfl rfl ?_
    refine g_goto (n := 13) d_L_enter_4 (by decide) ?_
    refine g_iconst (n := 14) (v := 0) d_L_enter_13 rfl (by decide) ?_
    exact g_iret d_L_enter_14 rfl (Nat.zero_le _) (Nat.zero_le _)
def f_H_open (ll : Int32) (he : Int32) (li : Nat → Int32) (en : Nat → Int32) (po : Nat → Int32) (pw : Int32) (su : Int32) (bt : Nat → Int32) (ct : Int32) (lc : Int32) (ad : Nat → Int32) (ln : Int32) (tx : Nat → Int32) (ou : Nat → Int64)  : Option (Int32 × (Nat → Int64) × Int32 × (Nat → Int32) × (Nat → Int32) × Int32 × Int32 × (Nat → Int32) × Int32 × (Nat → Int32)) :=
  ((f_V_open ll he li en po pw su bt ct lc ad ln tx).bind fun r1 => am_t r1.1 (fun E1 => (if E1 = "java/lang/IllegalStateException" then some (1, ou, r1.2.1, r1.2.2.1, r1.2.2.2.1, r1.2.2.2.2.1, r1.2.2.2.2.2.1, r1.2.2.2.2.2.2.1, r1.2.2.2.2.2.2.2.1, r1.2.2.2.2.2.2.2.2) else (if E1 = "java/util/NoSuchElementException" then some (2, ou, r1.2.1, r1.2.2.1, r1.2.2.2.1, r1.2.2.2.2.1, r1.2.2.2.2.2.1, r1.2.2.2.2.2.2.1, r1.2.2.2.2.2.2.2.1, r1.2.2.2.2.2.2.2.2) else (if E1 = "java/lang/UnsupportedOperationException" then some (3, ou, r1.2.1, r1.2.2.1, r1.2.2.2.1, r1.2.2.2.2.1, r1.2.2.2.2.2.1, r1.2.2.2.2.2.2.1, r1.2.2.2.2.2.2.2.1, r1.2.2.2.2.2.2.2.2) else none)))) (fun v1 => some (0, (vp_updL ou (0 : Int32).toNatClampNeg v1.toInt64), r1.2.1, r1.2.2.1, r1.2.2.2.1, r1.2.2.2.2.1, r1.2.2.2.2.2.1, r1.2.2.2.2.2.2.1, r1.2.2.2.2.2.2.2.1, r1.2.2.2.2.2.2.2.2)))
set_option maxHeartbeats 4000000 in
set_option maxRecDepth 100000 in
theorem s_H_open {l : Launch} {D : va_G} {dA : FieldType → ClassId} (htr : l.stackTraces = false) {ll : Int32} {he : Int32} {de : Int32} {li : Nat → Int32} {en : Nat → Int32} {po : Nat → Int32} {pw : Int32} {su : Int32} {wr : Int32} {cs : Int32} {wb : Int32} {bt : Nat → Int32} {ct : Int32} {lc : Int32} {ad : Nat → Int32} {ctb : Int32} {lcb : Int32} {adb : Nat → Int32} {fx : Int32} {us : Nat → Int32} {ln : Int32} {pt : Int32} {tx : Nat → Int32} {br : Nat → Int32} {rw : Nat → Int32} {on : Int32} {dd : Int32} {mw : Int32} {cu : Int32} {ty : Int32} {mh : Int32} {md : Int32} {dk : Nat → Int32} {op : Nat → Int32} {th : Int32} {sp : Int32} {mp : Int32} {mf : Int32} {ml : Nat → Int32} {ps : Nat → Int32} {nm : Nat → Int32} {mu : Nat → Int32} {ch : Nat → Int32} {wy : Nat → Int32} {nx : Nat → Int32} {ou : Nat → Int64}   {r : Int32 × (Nat → Int64) × Int32 × (Nat → Int32) × (Nat → Int32) × Int32 × Int32 × (Nat → Int32) × Int32 × (Nat → Int32)} (hf : f_H_open ll he li en po pw su bt ct lc ad ln tx ou = some r) {o : am_O} (ho : .inl (some (.int r.1)) = o) :
    am_M (am_kk l D dA) y_L_open ws_L_open (am_hr 8) [.ref 0, .ref 28] (hL ll he de li en po pw su wr cs wb bt ct lc ad ctb lcb adb fx us ln pt tx br rw on dd mw cu ty mh md dk op th sp mp mf ml ps nm mu ch wy nx ou) o (hL r.2.2.1 he de li r.2.2.2.1 r.2.2.2.2.1 pw su wr cs wb bt r.2.2.2.2.2.1 r.2.2.2.2.2.2.1 r.2.2.2.2.2.2.2.1 ctb lcb adb fx us r.2.2.2.2.2.2.2.2.1 pt r.2.2.2.2.2.2.2.2.2 br rw on dd mw cu ty mh md dk op th sp mp mf ml ps nm mu ch wy nx r.2.1) := by
  subst ho
  refine am_bodyW (by decide) rfl (Nat.le_of_ble_eq_true rfl) rfl ?_
  rw [f_H_open] at hf
  refine g_aload_n (n := 1) d_L_open_0 rfl 1 rfl rfl ?_
  refine g_iconst (n := 2) (v := 0) d_L_open_1 rfl (by decide) ?_
  refine g_aload_n (n := 3) d_L_open_2 rfl 0 rfl rfl ?_
  obtain ⟨r1, h1, hf⟩ := ob_bind hf
  rcases ob_t hf with ⟨E1, w1, hf⟩ | ⟨v1, w1, hf⟩
  · refine c_Vh [] [.int 0, .ref 28] d_L_open_3 (s_V_open htr h1 (by rw [w1]; rfl)) tw_672 tw_673 tw_674 tw_1 tw_675 hd_V_open ⟨by decide, by decide⟩ (ci := 6) rfl rfl rfl (Nat.le_of_ble_eq_true rfl) rfl ?_
    by_cases q0 : E1 = "java/lang/IllegalStateException"
    · have hf := ob_pos q0 hf
      subst q0
      cases hf
      refine g_catch (n := 12) (i := 2) [] ⟨0, 8, 11, 13⟩ [⟨0, 8, 14, 22⟩, ⟨0, 8, 17, 17⟩] rfl (by decide) (by decide) (List.mem_cons_of_mem _ tw_298) am_pre0 (Or.inl ⟨2, d_L_open_11, rfl, rfl⟩) (am_ltb rfl) ?_
      refine g_iconst (n := 13) (v := 1) d_L_open_12 rfl (by decide) ?_
      exact g_iret d_L_open_13 rfl (Nat.le_refl _) (Nat.le_refl _)
    · have hf := ob_neg q0 hf
      by_cases q1 : E1 = "java/util/NoSuchElementException"
      · have hf := ob_pos q1 hf
        subst q1
        cases hf
        refine g_catch (n := 15) (i := 2) [⟨0, 8, 11, 13⟩] ⟨0, 8, 14, 22⟩ [⟨0, 8, 17, 17⟩] rfl (by decide) (by decide) (List.mem_cons_of_mem _ tw_595) (am_preC (am_prow (by decide) (by decide) (List.mem_cons_of_mem _ tw_298) (List.mem_of_getElem? (i := 16) rfl)) am_pre0) (Or.inl ⟨2, d_L_open_14, rfl, rfl⟩) (am_ltb rfl) ?_
        refine g_iconst (n := 16) (v := 2) d_L_open_15 rfl (by decide) ?_
        exact g_iret d_L_open_16 rfl (Nat.le_refl _) (Nat.le_refl _)
      · have hf := ob_neg q1 hf
        by_cases q2 : E1 = "java/lang/UnsupportedOperationException"
        · have hf := ob_pos q2 hf
          subst q2
          cases hf
          refine g_catch (n := 18) (i := 2) [⟨0, 8, 11, 13⟩, ⟨0, 8, 14, 22⟩] ⟨0, 8, 17, 17⟩ [] rfl (by decide) (by decide) (List.mem_cons_of_mem _ tw_300) (am_preC (am_prow (by decide) (by decide) (List.mem_cons_of_mem _ tw_298) (List.mem_of_getElem? (i := 12) rfl)) (am_preC (am_prow (by decide) (by decide) (List.mem_cons_of_mem _ tw_595) (List.mem_of_getElem? (i := 14) rfl)) am_pre0)) (Or.inl ⟨2, d_L_open_17, rfl, rfl⟩) (am_ltb rfl) ?_
          refine g_iconst (n := 19) (v := 3) d_L_open_18 rfl (by decide) ?_
          exact g_iret d_L_open_19 rfl (Nat.le_refl _) (Nat.le_refl _)
        · have hf := ob_neg q2 hf
          cases hf
  · cases hf
    refine c_Vl (n := 6) (st' := [.int v1, .int 0, .ref 28]) [] [.int 0, .ref 28] d_L_open_3 rfl (s_V_open htr h1 (by rw [w1]; rfl)) tw_672 tw_673 tw_674 tw_1 tw_675 hd_V_open ⟨by decide, by decide⟩ (Nat.zero_le _) (Nat.zero_le _) (ci := 6) rfl rfl rfl (Nat.le_of_ble_eq_true rfl) rfl rfl ?_
    refine g_i2l (n := 7) d_L_open_6 rfl ?_
    refine g_last (n := 8) (q0 := 28) (h' := (hL r1.2.1 he de li r1.2.2.1 r1.2.2.2.1 pw su wr cs wb bt r1.2.2.2.2.1 r1.2.2.2.2.2.1 r1.2.2.2.2.2.2.1 ctb lcb adb fx us r1.2.2.2.2.2.2.2.1 pt r1.2.2.2.2.2.2.2.2 br rw on dd mw cu ty mh md dk op th sp mp mf ml ps nm mu ch wy nx (vp_updL ou (0 : Int32).toNatClampNeg v1.toInt64))) d_L_open_7 rfl rfl (am_inl (by decide)) rfl ?_
    refine g_goto (n := 20) d_L_open_8 (by decide) ?_
    refine g_iconst (n := 21) (v := 0) d_L_open_20 rfl (by decide) ?_
    exact g_iret d_L_open_21 rfl (Nat.zero_le _) (Nat.zero_le _)
def f_H_read (en : Nat → Int32) (po : Nat → Int32) (pw : Int32) (su : Int32) (bt : Nat → Int32) (ou : Nat → Int64) (x1 : Int32) (x2 : Int32) : Option (Int32 × (Nat → Int64) × (Nat → Int32)) :=
  ((f_V_read en po pw su bt x1 x2).bind fun r1 => am_t r1.1 (fun E1 => (if E1 = "java/lang/IllegalStateException" then some (1, ou, r1.2) else (if E1 = "java/lang/IllegalArgumentException" then some (2, ou, r1.2) else none))) (fun v1 => some (0, (vp_updL ou (0 : Int32).toNatClampNeg v1), r1.2)))
set_option maxHeartbeats 4000000 in
set_option maxRecDepth 100000 in
theorem s_H_read {l : Launch} {D : va_G} {dA : FieldType → ClassId} (htr : l.stackTraces = false) {ll : Int32} {he : Int32} {de : Int32} {li : Nat → Int32} {en : Nat → Int32} {po : Nat → Int32} {pw : Int32} {su : Int32} {wr : Int32} {cs : Int32} {wb : Int32} {bt : Nat → Int32} {ct : Int32} {lc : Int32} {ad : Nat → Int32} {ctb : Int32} {lcb : Int32} {adb : Nat → Int32} {fx : Int32} {us : Nat → Int32} {ln : Int32} {pt : Int32} {tx : Nat → Int32} {br : Nat → Int32} {rw : Nat → Int32} {on : Int32} {dd : Int32} {mw : Int32} {cu : Int32} {ty : Int32} {mh : Int32} {md : Int32} {dk : Nat → Int32} {op : Nat → Int32} {th : Int32} {sp : Int32} {mp : Int32} {mf : Int32} {ml : Nat → Int32} {ps : Nat → Int32} {nm : Nat → Int32} {mu : Nat → Int32} {ch : Nat → Int32} {wy : Nat → Int32} {nx : Nat → Int32} {ou : Nat → Int64}  {x1 : Int32} {x2 : Int32} {r : Int32 × (Nat → Int64) × (Nat → Int32)} (hf : f_H_read en po pw su bt ou x1 x2 = some r) {o : am_O} (ho : .inl (some (.int r.1)) = o) :
    am_M (am_kk l D dA) y_L_read ws_L_read (am_hr 5) [.ref 0, .int x1, .int x2, .ref 28] (hL ll he de li en po pw su wr cs wb bt ct lc ad ctb lcb adb fx us ln pt tx br rw on dd mw cu ty mh md dk op th sp mp mf ml ps nm mu ch wy nx ou) o (hL ll he de li en r.2.2 pw su wr cs wb bt ct lc ad ctb lcb adb fx us ln pt tx br rw on dd mw cu ty mh md dk op th sp mp mf ml ps nm mu ch wy nx r.2.1) := by
  subst ho
  refine am_bodyW (by decide) rfl (Nat.le_of_ble_eq_true rfl) rfl ?_
  rw [f_H_read] at hf
  refine g_aload_n (n := 1) d_L_read_0 rfl 3 rfl rfl ?_
  refine g_iconst (n := 2) (v := 0) d_L_read_1 rfl (by decide) ?_
  refine g_aload_n (n := 3) d_L_read_2 rfl 0 rfl rfl ?_
  refine g_iload_n (n := 4) d_L_read_3 rfl 1 rfl rfl ?_
  refine g_iload_n (n := 5) d_L_read_4 rfl 2 rfl rfl ?_
  obtain ⟨r1, h1, hf⟩ := ob_bind hf
  rcases ob_t hf with ⟨E1, w1, hf⟩ | ⟨v1, w1, hf⟩
  · refine c_Vh [.int x1, .int x2] [.int 0, .ref 28] d_L_read_5 (s_V_read htr h1 (by rw [w1]; rfl)) tw_689 tw_690 tw_691 tw_1 tw_692 hd_V_read ⟨by decide, by decide⟩ (ci := 6) rfl rfl rfl (Nat.le_of_ble_eq_true rfl) rfl ?_
    by_cases q0 : E1 = "java/lang/IllegalStateException"
    · have hf := ob_pos q0 hf
      subst q0
      cases hf
      refine g_catch (n := 14) (i := 4) [] ⟨0, 9, 12, 13⟩ [⟨0, 9, 16, 15⟩] rfl (by decide) (by decide) (List.mem_cons_of_mem _ tw_298) am_pre0 (Or.inr ⟨d_L_read_12, rfl⟩) (am_ltb rfl) ?_
      refine g_iconst (n := 15) (v := 1) d_L_read_14 rfl (by decide) ?_
      exact g_iret d_L_read_15 rfl (Nat.le_refl _) (Nat.le_refl _)
    · have hf := ob_neg q0 hf
      by_cases q1 : E1 = "java/lang/IllegalArgumentException"
      · have hf := ob_pos q1 hf
        subst q1
        cases hf
        refine g_catch (n := 18) (i := 4) [⟨0, 9, 12, 13⟩] ⟨0, 9, 16, 15⟩ [] rfl (by decide) (by decide) (List.mem_cons_of_mem _ tw_299) (am_preC (am_prow (by decide) (by decide) (List.mem_cons_of_mem _ tw_298) (List.mem_of_getElem? (i := 8) rfl)) am_pre0) (Or.inr ⟨d_L_read_16, rfl⟩) (am_ltb rfl) ?_
        refine g_iconst (n := 19) (v := 2) d_L_read_18 rfl (by decide) ?_
        exact g_iret d_L_read_19 rfl (Nat.le_refl _) (Nat.le_refl _)
      · have hf := ob_neg q1 hf
        cases hf
  · cases hf
    refine c_Vl (n := 8) (st' := [.long v1, .int 0, .ref 28]) [.int x1, .int x2] [.int 0, .ref 28] d_L_read_5 rfl (s_V_read htr h1 (by rw [w1]; rfl)) tw_689 tw_690 tw_691 tw_1 tw_692 hd_V_read ⟨by decide, by decide⟩ (Nat.zero_le _) (Nat.zero_le _) (ci := 6) rfl rfl rfl (Nat.le_of_ble_eq_true rfl) rfl rfl ?_
    refine g_last (n := 9) (q0 := 28) (h' := (hL ll he de li en r1.2 pw su wr cs wb bt ct lc ad ctb lcb adb fx us ln pt tx br rw on dd mw cu ty mh md dk op th sp mp mf ml ps nm mu ch wy nx (vp_updL ou (0 : Int32).toNatClampNeg v1))) d_L_read_8 rfl rfl (am_inl (by decide)) rfl ?_
    refine g_goto (n := 20) d_L_read_9 (by decide) ?_
    refine g_iconst (n := 21) (v := 0) d_L_read_20 rfl (by decide) ?_
    exact g_iret d_L_read_21 rfl (Nat.zero_le _) (Nat.zero_le _)
def f_H_write (g : am_WS) (su : Int32) (rw : Nat → Int32) (ou : Nat → Int64) (x1 : Int32) (x2 : Int64) (x4 : Int32) : Option (Int32 × (Nat → Int64) × am_WS × (Nat → Int32)) :=
  ((f_V_write g su rw x1 x2 x4).bind fun r1 => am_t r1.1 (fun E1 => (if E1 = "java/lang/IllegalStateException" then some (1, ou, r1.2.1, r1.2.2) else (if E1 = "java/lang/IllegalArgumentException" then some (2, ou, r1.2.1, r1.2.2) else (if E1 = "java/lang/UnsupportedOperationException" then some (3, ou, r1.2.1, r1.2.2) else none)))) (fun v1 => some (0, (vp_updL ou (0 : Int32).toNatClampNeg v1.toInt64), r1.2.1, r1.2.2)))
set_option maxHeartbeats 4000000 in
set_option maxRecDepth 100000 in
theorem s_H_write {l : Launch} {D : va_G} {dA : FieldType → ClassId} (htr : l.stackTraces = false) {li : Nat → Int32} {su : Int32} {ct : Int32} {lc : Int32} {ad : Nat → Int32} {ctb : Int32} {lcb : Int32} {adb : Nat → Int32} {fx : Int32} {us : Nat → Int32} {ln : Int32} {pt : Int32} {tx : Nat → Int32} {br : Nat → Int32} {rw : Nat → Int32} {on : Int32} {dd : Int32} {mw : Int32} {cu : Int32} {ty : Int32} {mh : Int32} {md : Int32} {dk : Nat → Int32} {op : Nat → Int32} {th : Int32} {sp : Int32} {mp : Int32} {mf : Int32} {ml : Nat → Int32} {ps : Nat → Int32} {nm : Nat → Int32} {mu : Nat → Int32} {ch : Nat → Int32} {wy : Nat → Int32} {nx : Nat → Int32} {ou : Nat → Int64} {g : am_WS} {x1 : Int32} {x2 : Int64} {x4 : Int32} {r : Int32 × (Nat → Int64) × am_WS × (Nat → Int32)} (hf : f_H_write g su rw ou x1 x2 x4 = some r) {o : am_O} (ho : .inl (some (.int r.1)) = o) :
    am_M (am_kk l D dA) y_L_write ws_L_write (am_hr 7) [.ref 0, .int x1, .long x2, .int x4, .ref 28] (hL g.1 g.2.1 g.2.2.1 li g.2.2.2.1 g.2.2.2.2.1 g.2.2.2.2.2.1 su g.2.2.2.2.2.2.1 g.2.2.2.2.2.2.2.1 g.2.2.2.2.2.2.2.2.1 g.2.2.2.2.2.2.2.2.2 ct lc ad ctb lcb adb fx us ln pt tx br rw on dd mw cu ty mh md dk op th sp mp mf ml ps nm mu ch wy nx ou) o (hL r.2.2.1.1 r.2.2.1.2.1 r.2.2.1.2.2.1 li r.2.2.1.2.2.2.1 r.2.2.1.2.2.2.2.1 r.2.2.1.2.2.2.2.2.1 su r.2.2.1.2.2.2.2.2.2.1 r.2.2.1.2.2.2.2.2.2.2.1 r.2.2.1.2.2.2.2.2.2.2.2.1 r.2.2.1.2.2.2.2.2.2.2.2.2 ct lc ad ctb lcb adb fx us ln pt tx br r.2.2.2 on dd mw cu ty mh md dk op th sp mp mf ml ps nm mu ch wy nx r.2.1) := by
  subst ho
  refine am_bodyW (by decide) rfl (Nat.le_of_ble_eq_true rfl) rfl ?_
  rw [f_H_write] at hf
  refine g_aload (n := 2) d_L_write_0 rfl 4 rfl ?_
  refine g_iconst (n := 3) (v := 0) d_L_write_2 rfl (by decide) ?_
  refine g_aload_n (n := 4) d_L_write_3 rfl 0 rfl rfl ?_
  refine g_iload_n (n := 5) d_L_write_4 rfl 1 rfl rfl ?_
  refine g_lload_n (n := 6) d_L_write_5 rfl 2 rfl rfl ?_
  refine g_iload (n := 8) d_L_write_6 rfl 3 rfl ?_
  obtain ⟨r1, h1, hf⟩ := ob_bind hf
  rcases ob_t hf with ⟨E1, w1, hf⟩ | ⟨v1, w1, hf⟩
  · refine c_Vh [.int x1, .long x2, .int x4] [.int 0, .ref 28] d_L_write_8 (s_V_write htr h1 (by rw [w1]; rfl)) tw_709 tw_710 tw_711 tw_1 tw_712 hd_V_write ⟨by decide, by decide⟩ (ci := 6) rfl rfl rfl (Nat.le_of_ble_eq_true rfl) rfl ?_
    by_cases q0 : E1 = "java/lang/IllegalStateException"
    · have hf := ob_pos q0 hf
      subst q0
      cases hf
      refine g_catch (n := 18) (i := 6) [] ⟨0, 13, 16, 13⟩ [⟨0, 13, 20, 15⟩, ⟨0, 13, 24, 17⟩] rfl (by decide) (by decide) (List.mem_cons_of_mem _ tw_298) am_pre0 (Or.inr ⟨d_L_write_16, rfl⟩) (am_ltb rfl) ?_
      refine g_iconst (n := 19) (v := 1) d_L_write_18 rfl (by decide) ?_
      exact g_iret d_L_write_19 rfl (Nat.le_refl _) (Nat.le_refl _)
    · have hf := ob_neg q0 hf
      by_cases q1 : E1 = "java/lang/IllegalArgumentException"
      · have hf := ob_pos q1 hf
        subst q1
        cases hf
        refine g_catch (n := 22) (i := 6) [⟨0, 13, 16, 13⟩] ⟨0, 13, 20, 15⟩ [⟨0, 13, 24, 17⟩] rfl (by decide) (by decide) (List.mem_cons_of_mem _ tw_299) (am_preC (am_prow (by decide) (by decide) (List.mem_cons_of_mem _ tw_298) (List.mem_of_getElem? (i := 8) rfl)) am_pre0) (Or.inr ⟨d_L_write_20, rfl⟩) (am_ltb rfl) ?_
        refine g_iconst (n := 23) (v := 2) d_L_write_22 rfl (by decide) ?_
        exact g_iret d_L_write_23 rfl (Nat.le_refl _) (Nat.le_refl _)
      · have hf := ob_neg q1 hf
        by_cases q2 : E1 = "java/lang/UnsupportedOperationException"
        · have hf := ob_pos q2 hf
          subst q2
          cases hf
          refine g_catch (n := 26) (i := 6) [⟨0, 13, 16, 13⟩, ⟨0, 13, 20, 15⟩] ⟨0, 13, 24, 17⟩ [] rfl (by decide) (by decide) (List.mem_cons_of_mem _ tw_300) (am_preC (am_prow (by decide) (by decide) (List.mem_cons_of_mem _ tw_298) (List.mem_of_getElem? (i := 12) rfl)) (am_preC (am_prow (by decide) (by decide) (List.mem_cons_of_mem _ tw_299) (List.mem_of_getElem? (i := 13) rfl)) am_pre0)) (Or.inr ⟨d_L_write_24, rfl⟩) (am_ltb rfl) ?_
          refine g_iconst (n := 27) (v := 3) d_L_write_26 rfl (by decide) ?_
          exact g_iret d_L_write_27 rfl (Nat.le_refl _) (Nat.le_refl _)
        · have hf := ob_neg q2 hf
          cases hf
  · cases hf
    refine c_Vl (n := 11) (st' := [.int v1, .int 0, .ref 28]) [.int x1, .long x2, .int x4] [.int 0, .ref 28] d_L_write_8 rfl (s_V_write htr h1 (by rw [w1]; rfl)) tw_709 tw_710 tw_711 tw_1 tw_712 hd_V_write ⟨by decide, by decide⟩ (Nat.zero_le _) (Nat.zero_le _) (ci := 6) rfl rfl rfl (Nat.le_of_ble_eq_true rfl) rfl rfl ?_
    refine g_i2l (n := 12) d_L_write_11 rfl ?_
    refine g_last (n := 13) (q0 := 28) (h' := (hL r1.2.1.1 r1.2.1.2.1 r1.2.1.2.2.1 li r1.2.1.2.2.2.1 r1.2.1.2.2.2.2.1 r1.2.1.2.2.2.2.2.1 su r1.2.1.2.2.2.2.2.2.1 r1.2.1.2.2.2.2.2.2.2.1 r1.2.1.2.2.2.2.2.2.2.2.1 r1.2.1.2.2.2.2.2.2.2.2.2 ct lc ad ctb lcb adb fx us ln pt tx br r1.2.2 on dd mw cu ty mh md dk op th sp mp mf ml ps nm mu ch wy nx (vp_updL ou (0 : Int32).toNatClampNeg v1.toInt64))) d_L_write_12 rfl rfl (am_inl (by decide)) rfl ?_
    refine g_goto (n := 28) d_L_write_13 (by decide) ?_
    refine g_iconst (n := 29) (v := 0) d_L_write_28 rfl (by decide) ?_
    exact g_iret d_L_write_29 rfl (Nat.zero_le _) (Nat.zero_le _)
def f_H_list (he : Int32) (pw : Int32) (su : Int32) (bt : Nat → Int32) (ct : Int32) (lc : Int32) (ad : Nat → Int32) (ou : Nat → Int64) (x1 : Int32) (x2 : Int32) : Option (Int32 × (Nat → Int64) × Int32 × Int32 × (Nat → Int32)) :=
  ((f_V_list he pw su bt ct lc ad x1 x2).bind fun r1 => am_t r1.1 (fun E1 => (if E1 = "java/lang/IllegalStateException" then some (1, ou, r1.2.1, r1.2.2.1, r1.2.2.2) else (if E1 = "java/util/NoSuchElementException" then some (2, ou, r1.2.1, r1.2.2.1, r1.2.2.2) else (if E1 = "java/lang/IndexOutOfBoundsException" then some (3, ou, r1.2.1, r1.2.2.1, r1.2.2.2) else none)))) (fun v1 => some (0, (vp_updL ou (0 : Int32).toNatClampNeg v1.toInt64), r1.2.1, r1.2.2.1, r1.2.2.2)))
set_option maxHeartbeats 4000000 in
set_option maxRecDepth 100000 in
theorem s_H_list {l : Launch} {D : va_G} {dA : FieldType → ClassId} (htr : l.stackTraces = false) {ll : Int32} {he : Int32} {de : Int32} {li : Nat → Int32} {en : Nat → Int32} {po : Nat → Int32} {pw : Int32} {su : Int32} {wr : Int32} {cs : Int32} {wb : Int32} {bt : Nat → Int32} {ct : Int32} {lc : Int32} {ad : Nat → Int32} {ctb : Int32} {lcb : Int32} {adb : Nat → Int32} {fx : Int32} {us : Nat → Int32} {ln : Int32} {pt : Int32} {tx : Nat → Int32} {br : Nat → Int32} {rw : Nat → Int32} {on : Int32} {dd : Int32} {mw : Int32} {cu : Int32} {ty : Int32} {mh : Int32} {md : Int32} {dk : Nat → Int32} {op : Nat → Int32} {th : Int32} {sp : Int32} {mp : Int32} {mf : Int32} {ml : Nat → Int32} {ps : Nat → Int32} {nm : Nat → Int32} {mu : Nat → Int32} {ch : Nat → Int32} {wy : Nat → Int32} {nx : Nat → Int32} {ou : Nat → Int64}  {x1 : Int32} {x2 : Int32} {r : Int32 × (Nat → Int64) × Int32 × Int32 × (Nat → Int32)} (hf : f_H_list he pw su bt ct lc ad ou x1 x2 = some r) {o : am_O} (ho : .inl (some (.int r.1)) = o) :
    am_M (am_kk l D dA) y_L_list ws_L_list (am_hr 6) [.ref 0, .int x1, .int x2, .ref 28] (hL ll he de li en po pw su wr cs wb bt ct lc ad ctb lcb adb fx us ln pt tx br rw on dd mw cu ty mh md dk op th sp mp mf ml ps nm mu ch wy nx ou) o (hL ll he de li en po pw su wr cs wb bt r.2.2.1 r.2.2.2.1 r.2.2.2.2 ctb lcb adb fx us ln pt tx br rw on dd mw cu ty mh md dk op th sp mp mf ml ps nm mu ch wy nx r.2.1) := by
  subst ho
  refine am_bodyW (by decide) rfl (Nat.le_of_ble_eq_true rfl) rfl ?_
  rw [f_H_list] at hf
  refine g_aload_n (n := 1) d_L_list_0 rfl 3 rfl rfl ?_
  refine g_iconst (n := 2) (v := 0) d_L_list_1 rfl (by decide) ?_
  refine g_aload_n (n := 3) d_L_list_2 rfl 0 rfl rfl ?_
  refine g_iload_n (n := 4) d_L_list_3 rfl 1 rfl rfl ?_
  refine g_iload_n (n := 5) d_L_list_4 rfl 2 rfl rfl ?_
  obtain ⟨r1, h1, hf⟩ := ob_bind hf
  rcases ob_t hf with ⟨E1, w1, hf⟩ | ⟨v1, w1, hf⟩
  · refine c_Vh [.int x1, .int x2] [.int 0, .ref 28] d_L_list_5 (s_V_list htr h1 (by rw [w1]; rfl)) tw_736 tw_737 tw_738 tw_1 tw_739 hd_V_list ⟨by decide, by decide⟩ (ci := 6) rfl rfl rfl (Nat.le_of_ble_eq_true rfl) rfl ?_
    by_cases q0 : E1 = "java/lang/IllegalStateException"
    · have hf := ob_pos q0 hf
      subst q0
      cases hf
      refine g_catch (n := 15) (i := 4) [] ⟨0, 10, 13, 13⟩ [⟨0, 10, 17, 22⟩, ⟨0, 10, 21, 43⟩] rfl (by decide) (by decide) (List.mem_cons_of_mem _ tw_298) am_pre0 (Or.inr ⟨d_L_list_13, rfl⟩) (am_ltb rfl) ?_
      refine g_iconst (n := 16) (v := 1) d_L_list_15 rfl (by decide) ?_
      exact g_iret d_L_list_16 rfl (Nat.le_refl _) (Nat.le_refl _)
    · have hf := ob_neg q0 hf
      by_cases q1 : E1 = "java/util/NoSuchElementException"
      · have hf := ob_pos q1 hf
        subst q1
        cases hf
        refine g_catch (n := 19) (i := 4) [⟨0, 10, 13, 13⟩] ⟨0, 10, 17, 22⟩ [⟨0, 10, 21, 43⟩] rfl (by decide) (by decide) (List.mem_cons_of_mem _ tw_595) (am_preC (am_prow (by decide) (by decide) (List.mem_cons_of_mem _ tw_298) (List.mem_of_getElem? (i := 16) rfl)) am_pre0) (Or.inr ⟨d_L_list_17, rfl⟩) (am_ltb rfl) ?_
        refine g_iconst (n := 20) (v := 2) d_L_list_19 rfl (by decide) ?_
        exact g_iret d_L_list_20 rfl (Nat.le_refl _) (Nat.le_refl _)
      · have hf := ob_neg q1 hf
        by_cases q2 : E1 = "java/lang/IndexOutOfBoundsException"
        · have hf := ob_pos q2 hf
          subst q2
          cases hf
          refine g_catch (n := 23) (i := 4) [⟨0, 10, 13, 13⟩, ⟨0, 10, 17, 22⟩] ⟨0, 10, 21, 43⟩ [] rfl (by decide) (by decide) (List.mem_cons_of_mem _ tw_735) (am_preC (am_prow (by decide) (by decide) (List.mem_cons_of_mem _ tw_298) (List.mem_of_getElem? (i := 20) rfl)) (am_preC (am_prow (by decide) (by decide) (List.mem_cons_of_mem _ tw_595) (List.mem_of_getElem? (i := 23) rfl)) am_pre0)) (Or.inr ⟨d_L_list_21, rfl⟩) (am_ltb rfl) ?_
          refine g_iconst (n := 24) (v := 3) d_L_list_23 rfl (by decide) ?_
          exact g_iret d_L_list_24 rfl (Nat.le_refl _) (Nat.le_refl _)
        · have hf := ob_neg q2 hf
          cases hf
  · cases hf
    refine c_Vl (n := 8) (st' := [.int v1, .int 0, .ref 28]) [.int x1, .int x2] [.int 0, .ref 28] d_L_list_5 rfl (s_V_list htr h1 (by rw [w1]; rfl)) tw_736 tw_737 tw_738 tw_1 tw_739 hd_V_list ⟨by decide, by decide⟩ (Nat.zero_le _) (Nat.zero_le _) (ci := 6) rfl rfl rfl (Nat.le_of_ble_eq_true rfl) rfl rfl ?_
    refine g_i2l (n := 9) d_L_list_8 rfl ?_
    refine g_last (n := 10) (q0 := 28) (h' := (hL ll he de li en po pw su wr cs wb bt r1.2.1 r1.2.2.1 r1.2.2.2 ctb lcb adb fx us ln pt tx br rw on dd mw cu ty mh md dk op th sp mp mf ml ps nm mu ch wy nx (vp_updL ou (0 : Int32).toNatClampNeg v1.toInt64))) d_L_list_9 rfl rfl (am_inl (by decide)) rfl ?_
    refine g_goto (n := 25) d_L_list_10 (by decide) ?_
    refine g_iconst (n := 26) (v := 0) d_L_list_25 rfl (by decide) ?_
    exact g_iret d_L_list_26 rfl (Nat.zero_le _) (Nat.zero_le _)
def f_H_repair (g : am_WS) (su : Int32) (ct : Int32) (lc : Int32) (ad : Nat → Int32) (fx : Int32) (us : Nat → Int32) (ou : Nat → Int64)  : Option (Int32 × (Nat → Int64) × am_WS × Int32 × Int32 × Int32 × (Nat → Int32) × Int32 × (Nat → Int32)) :=
  ((f_V_repair g su ct lc ad fx us).bind fun r1 => am_t r1.1 (fun E1 => (if E1 = "java/lang/IllegalStateException" then some (1, ou, r1.2.1, r1.2.2.1, r1.2.2.2.1, r1.2.2.2.2.1, r1.2.2.2.2.2.1, r1.2.2.2.2.2.2.1, r1.2.2.2.2.2.2.2) else none)) (fun v1 => some (0, (vp_updL ou (0 : Int32).toNatClampNeg v1.toInt64), r1.2.1, r1.2.2.1, r1.2.2.2.1, r1.2.2.2.2.1, r1.2.2.2.2.2.1, r1.2.2.2.2.2.2.1, r1.2.2.2.2.2.2.2)))
set_option maxHeartbeats 4000000 in
set_option maxRecDepth 100000 in
theorem s_H_repair {l : Launch} {D : va_G} {dA : FieldType → ClassId} (htr : l.stackTraces = false) {li : Nat → Int32} {su : Int32} {ct : Int32} {lc : Int32} {ad : Nat → Int32} {ctb : Int32} {lcb : Int32} {adb : Nat → Int32} {fx : Int32} {us : Nat → Int32} {ln : Int32} {pt : Int32} {tx : Nat → Int32} {br : Nat → Int32} {rw : Nat → Int32} {on : Int32} {dd : Int32} {mw : Int32} {cu : Int32} {ty : Int32} {mh : Int32} {md : Int32} {dk : Nat → Int32} {op : Nat → Int32} {th : Int32} {sp : Int32} {mp : Int32} {mf : Int32} {ml : Nat → Int32} {ps : Nat → Int32} {nm : Nat → Int32} {mu : Nat → Int32} {ch : Nat → Int32} {wy : Nat → Int32} {nx : Nat → Int32} {ou : Nat → Int64} {g : am_WS}  {r : Int32 × (Nat → Int64) × am_WS × Int32 × Int32 × Int32 × (Nat → Int32) × Int32 × (Nat → Int32)} (hf : f_H_repair g su ct lc ad fx us ou = some r) {o : am_O} (ho : .inl (some (.int r.1)) = o) :
    am_M (am_kk l D dA) y_L_repair ws_L_repair (am_hr 16) [.ref 0, .ref 28] (hL g.1 g.2.1 g.2.2.1 li g.2.2.2.1 g.2.2.2.2.1 g.2.2.2.2.2.1 su g.2.2.2.2.2.2.1 g.2.2.2.2.2.2.2.1 g.2.2.2.2.2.2.2.2.1 g.2.2.2.2.2.2.2.2.2 ct lc ad ctb lcb adb fx us ln pt tx br rw on dd mw cu ty mh md dk op th sp mp mf ml ps nm mu ch wy nx ou) o (hL r.2.2.1.1 r.2.2.1.2.1 r.2.2.1.2.2.1 li r.2.2.1.2.2.2.1 r.2.2.1.2.2.2.2.1 r.2.2.1.2.2.2.2.2.1 r.2.2.2.1 r.2.2.1.2.2.2.2.2.2.1 r.2.2.1.2.2.2.2.2.2.2.1 r.2.2.1.2.2.2.2.2.2.2.2.1 r.2.2.1.2.2.2.2.2.2.2.2.2 r.2.2.2.2.1 r.2.2.2.2.2.1 r.2.2.2.2.2.2.1 ctb lcb adb r.2.2.2.2.2.2.2.1 r.2.2.2.2.2.2.2.2 ln pt tx br rw on dd mw cu ty mh md dk op th sp mp mf ml ps nm mu ch wy nx r.2.1) := by
  subst ho
  refine am_bodyW (by decide) rfl (Nat.le_of_ble_eq_true rfl) rfl ?_
  rw [f_H_repair] at hf
  refine g_aload_n (n := 1) d_L_repair_0 rfl 1 rfl rfl ?_
  refine g_iconst (n := 2) (v := 0) d_L_repair_1 rfl (by decide) ?_
  refine g_aload_n (n := 3) d_L_repair_2 rfl 0 rfl rfl ?_
  obtain ⟨r1, h1, hf⟩ := ob_bind hf
  rcases ob_t hf with ⟨E1, w1, hf⟩ | ⟨v1, w1, hf⟩
  · refine c_Vh [] [.int 0, .ref 28] d_L_repair_3 (s_V_repair htr h1 (by rw [w1]; rfl)) tw_781 tw_782 tw_783 tw_1 tw_784 hd_V_repair ⟨by decide, by decide⟩ (ci := 6) rfl rfl rfl (Nat.le_of_ble_eq_true rfl) rfl ?_
    by_cases q0 : E1 = "java/lang/IllegalStateException"
    · have hf := ob_pos q0 hf
      subst q0
      cases hf
      refine g_catch (n := 12) (i := 2) [] ⟨0, 8, 11, 13⟩ [] rfl (by decide) (by decide) (List.mem_cons_of_mem _ tw_298) am_pre0 (Or.inl ⟨2, d_L_repair_11, rfl, rfl⟩) (am_ltb rfl) ?_
      refine g_iconst (n := 13) (v := 1) d_L_repair_12 rfl (by decide) ?_
      exact g_iret d_L_repair_13 rfl (Nat.le_refl _) (Nat.le_refl _)
    · have hf := ob_neg q0 hf
      cases hf
  · cases hf
    refine c_Vl (n := 6) (st' := [.int v1, .int 0, .ref 28]) [] [.int 0, .ref 28] d_L_repair_3 rfl (s_V_repair htr h1 (by rw [w1]; rfl)) tw_781 tw_782 tw_783 tw_1 tw_784 hd_V_repair ⟨by decide, by decide⟩ (Nat.zero_le _) (Nat.zero_le _) (ci := 6) rfl rfl rfl (Nat.le_of_ble_eq_true rfl) rfl rfl ?_
    refine g_i2l (n := 7) d_L_repair_6 rfl ?_
    refine g_last (n := 8) (q0 := 28) (h' := (hL r1.2.1.1 r1.2.1.2.1 r1.2.1.2.2.1 li r1.2.1.2.2.2.1 r1.2.1.2.2.2.2.1 r1.2.1.2.2.2.2.2.1 r1.2.2.1 r1.2.1.2.2.2.2.2.2.1 r1.2.1.2.2.2.2.2.2.2.1 r1.2.1.2.2.2.2.2.2.2.2.1 r1.2.1.2.2.2.2.2.2.2.2.2 r1.2.2.2.1 r1.2.2.2.2.1 r1.2.2.2.2.2.1 ctb lcb adb r1.2.2.2.2.2.2.1 r1.2.2.2.2.2.2.2 ln pt tx br rw on dd mw cu ty mh md dk op th sp mp mf ml ps nm mu ch wy nx (vp_updL ou (0 : Int32).toNatClampNeg v1.toInt64))) d_L_repair_7 rfl rfl (am_inl (by decide)) rfl ?_
    refine g_goto (n := 14) d_L_repair_8 (by decide) ?_
    refine g_iconst (n := 15) (v := 0) d_L_repair_14 rfl (by decide) ?_
    exact g_iret d_L_repair_15 rfl (Nat.zero_le _) (Nat.zero_le _)
def f_L_law_L23 (L9 : Nat) (xs9 : Nat → Int32) : Nat → am_WS → (Nat → Int32) → Int32 → Int32 → Int32 → (Nat → Int32) → Int32 → Int32 → (Nat → Int32) → Int32 → (Nat → Int32) → Int32 → Int32 → (Nat → Int32) → (Nat → Int32) → (Nat → Int32) → am_MS → Int32 → Int32 → Int32 → Int32 → (Nat → Int32) → (Nat → Int32) → (Nat → Int32) → (Nat → Int32) → (Nat → Int32) → (Nat → Int32) → (Nat → Int32) → (Nat → Int64) → Int32 → Option (Int32 × am_WS × (Nat → Int32) × Int32 × Int32 × Int32 × (Nat → Int32) × Int32 × Int32 × (Nat → Int32) × Int32 × (Nat → Int32) × Int32 × Int32 × (Nat → Int32) × (Nat → Int32) × (Nat → Int32) × am_MS × Int32 × Int32 × Int32 × Int32 × (Nat → Int32) × (Nat → Int32) × (Nat → Int32) × (Nat → Int32) × (Nat → Int32) × (Nat → Int32) × (Nat → Int32) × (Nat → Int64))
  | 0, _, _, _, _, _, _, _, _, _, _, _, _, _, _, _, _, _, _, _, _, _, _, _, _, _, _, _, _, _, _ => none
  | fuel + 1, g, li, su, ct, lc, ad, ctb, lcb, adb, fx, us, ln, pt, tx, br, rw, w, th, sp, mp, mf, ml, ps, nm, mu, ch, wy, nx, ou, x4 =>
  (if ((Int32.ofNat L9) - 5) < x4 then some (1, g, li, su, ct, lc, ad, ctb, lcb, adb, fx, us, ln, pt, tx, br, rw, w, th, sp, mp, mf, ml, ps, nm, mu, ch, wy, nx, ou) else (if am_in x4 L9 = true then (if ((xs9 x4.toNatClampNeg) &&& 15) = 0 then (if am_in (x4 + 1) L9 = true then ((f_V_type g.1 li (((xs9 (x4 + 1).toNatClampNeg).toUInt32 % 65536).toInt32)).bind fun r5 => (if am_in (x4 + 1) L9 = true then ((f_M_type w.2.2.2.2.1 th ml (((xs9 (x4 + 1).toNatClampNeg).toUInt32 % 65536).toInt32)).bind fun r8 => (if r5.1 = r8.1 then f_L_law_L23 L9 xs9 fuel (r5.2.1, g.2.1, g.2.2.1, g.2.2.2.1, g.2.2.2.2.1, g.2.2.2.2.2.1, g.2.2.2.2.2.2.1, g.2.2.2.2.2.2.2.1, g.2.2.2.2.2.2.2.2.1, g.2.2.2.2.2.2.2.2.2) r5.2.2 su ct lc ad ctb lcb adb fx us ln pt tx br rw (w.1, w.2.1, w.2.2.1, w.2.2.2.1, r8.2.1, w.2.2.2.2.2.1, w.2.2.2.2.2.2.1, w.2.2.2.2.2.2.2.1, w.2.2.2.2.2.2.2.2) r8.2.2.1 sp mp mf r8.2.2.2 ps nm mu ch wy nx ou (x4 + 5) else some (0, (r5.2.1, g.2.1, g.2.2.1, g.2.2.2.1, g.2.2.2.2.1, g.2.2.2.2.2.1, g.2.2.2.2.2.2.1, g.2.2.2.2.2.2.2.1, g.2.2.2.2.2.2.2.2.1, g.2.2.2.2.2.2.2.2.2), r5.2.2, su, ct, lc, ad, ctb, lcb, adb, fx, us, ln, pt, tx, br, rw, (w.1, w.2.1, w.2.2.1, w.2.2.2.1, r8.2.1, w.2.2.2.2.2.1, w.2.2.2.2.2.2.1, w.2.2.2.2.2.2.2.1, w.2.2.2.2.2.2.2.2), r8.2.2.1, sp, mp, mf, r8.2.2.2, ps, nm, mu, ch, wy, nx, ou))) else none)) else none) else (if ((xs9 x4.toNatClampNeg) &&& 15) = 1 then (if am_in (x4 + 1) L9 = true then ((f_H_create g li su ct lc ad ln pt tx br rw (xs9 (x4 + 1).toNatClampNeg)).bind fun r13 => (if am_in (x4 + 1) L9 = true then ((f_M_create w th sp mp ml nm (xs9 (x4 + 1).toNatClampNeg)).bind fun r16 => ((f_M_thrown r16.2.1).bind fun r18 => (if r18 = r13.1 then f_L_law_L23 L9 xs9 fuel r13.2.1 li su r13.2.2.1 r13.2.2.2.1 r13.2.2.2.2.1 ctb lcb adb fx us r13.2.2.2.2.2.1 r13.2.2.2.2.2.2.1 r13.2.2.2.2.2.2.2.1 r13.2.2.2.2.2.2.2.2.1 r13.2.2.2.2.2.2.2.2.2 r16.1 r16.2.1 sp r16.2.2.1 mf ml ps r16.2.2.2 mu ch wy nx ou (x4 + 5) else some (0, r13.2.1, li, su, r13.2.2.1, r13.2.2.2.1, r13.2.2.2.2.1, ctb, lcb, adb, fx, us, r13.2.2.2.2.2.1, r13.2.2.2.2.2.2.1, r13.2.2.2.2.2.2.2.1, r13.2.2.2.2.2.2.2.2.1, r13.2.2.2.2.2.2.2.2.2, r16.1, r16.2.1, sp, r16.2.2.1, mf, ml, ps, r16.2.2.2, mu, ch, wy, nx, ou)))) else none)) else none) else (if ((xs9 x4.toNatClampNeg) &&& 15) = 2 then ((f_H_delete g li su ct lc ad ctb lcb adb ln tx).bind fun r22 => ((f_M_delete w th sp ml).bind fun r24 => ((f_M_thrown r24.2).bind fun r26 => (if r26 = r22.1 then f_L_law_L23 L9 xs9 fuel r22.2.1 li su r22.2.2.1 r22.2.2.2.1 r22.2.2.2.2.1 r22.2.2.2.2.2.1 r22.2.2.2.2.2.2.1 r22.2.2.2.2.2.2.2.1 fx us r22.2.2.2.2.2.2.2.2.1 pt r22.2.2.2.2.2.2.2.2.2 br rw r24.1 r24.2 sp mp mf ml ps nm mu ch wy nx ou (x4 + 5) else some (0, r22.2.1, li, su, r22.2.2.1, r22.2.2.2.1, r22.2.2.2.2.1, r22.2.2.2.2.2.1, r22.2.2.2.2.2.2.1, r22.2.2.2.2.2.2.2.1, fx, us, r22.2.2.2.2.2.2.2.2.1, pt, r22.2.2.2.2.2.2.2.2.2, br, rw, r24.1, r24.2, sp, mp, mf, ml, ps, nm, mu, ch, wy, nx, ou))))) else (if ((xs9 x4.toNatClampNeg) &&& 15) = 3 then ((f_H_enter g.1 g.2.1 g.2.2.1 li g.2.2.2.2.2.1 su g.2.2.2.2.2.2.2.2.2 ct lc ad ln tx).bind fun r30 => ((f_M_enter w.1 w.2.1 w.2.2.2.2.1 w.2.2.2.2.2.1 w.2.2.2.2.2.2.1 w.2.2.2.2.2.2.2.1 th sp ml).bind fun r32 => ((f_M_thrown r32.2.2.2.2).bind fun r34 => (if r34 = r30.1 then f_L_law_L23 L9 xs9 fuel (r30.2.1, r30.2.2.1, r30.2.2.2.1, g.2.2.2.1, g.2.2.2.2.1, g.2.2.2.2.2.1, g.2.2.2.2.2.2.1, g.2.2.2.2.2.2.2.1, g.2.2.2.2.2.2.2.2.1, g.2.2.2.2.2.2.2.2.2) li su r30.2.2.2.2.1 r30.2.2.2.2.2.1 r30.2.2.2.2.2.2.1 ctb lcb adb fx us r30.2.2.2.2.2.2.2.1 pt r30.2.2.2.2.2.2.2.2 br rw (w.1, r32.1, w.2.2.1, w.2.2.2.1, r32.2.1, r32.2.2.1, r32.2.2.2.1, w.2.2.2.2.2.2.2.1, w.2.2.2.2.2.2.2.2) r32.2.2.2.2 sp mp mf ml ps nm mu ch wy nx ou (x4 + 5) else some (0, (r30.2.1, r30.2.2.1, r30.2.2.2.1, g.2.2.2.1, g.2.2.2.2.1, g.2.2.2.2.2.1, g.2.2.2.2.2.2.1, g.2.2.2.2.2.2.2.1, g.2.2.2.2.2.2.2.2.1, g.2.2.2.2.2.2.2.2.2), li, su, r30.2.2.2.2.1, r30.2.2.2.2.2.1, r30.2.2.2.2.2.2.1, ctb, lcb, adb, fx, us, r30.2.2.2.2.2.2.2.1, pt, r30.2.2.2.2.2.2.2.2, br, rw, (w.1, r32.1, w.2.2.1, w.2.2.2.1, r32.2.1, r32.2.2.1, r32.2.2.2.1, w.2.2.2.2.2.2.2.1, w.2.2.2.2.2.2.2.2), r32.2.2.2.2, sp, mp, mf, ml, ps, nm, mu, ch, wy, nx, ou))))) else (if ((xs9 x4.toNatClampNeg) &&& 15) = 4 then ((f_H_open g.1 g.2.1 li g.2.2.2.1 g.2.2.2.2.1 g.2.2.2.2.2.1 su g.2.2.2.2.2.2.2.2.2 ct lc ad ln tx ou).bind fun r38 => ((f_M_open w.1 w.2.1 w.2.2.2.2.1 w.2.2.2.2.2.1 w.2.2.2.2.2.2.2.1 w.2.2.2.2.2.2.2.2 th sp ml ps).bind fun r40 => ((f_M_thrown r40.2.2.2.2.1).bind fun r42 => (if r42 = r38.1 then (if r38.1 = 0 then (if (lg_cmp (r38.2.1 (0 : Int32).toNatClampNeg) r40.1.toInt64) = 0 then f_L_law_L23 L9 xs9 fuel (r38.2.2.1, g.2.1, g.2.2.1, r38.2.2.2.1, r38.2.2.2.2.1, g.2.2.2.2.2.1, g.2.2.2.2.2.2.1, g.2.2.2.2.2.2.2.1, g.2.2.2.2.2.2.2.2.1, g.2.2.2.2.2.2.2.2.2) li su r38.2.2.2.2.2.1 r38.2.2.2.2.2.2.1 r38.2.2.2.2.2.2.2.1 ctb lcb adb fx us r38.2.2.2.2.2.2.2.2.1 pt r38.2.2.2.2.2.2.2.2.2 br rw (w.1, r40.2.1, w.2.2.1, w.2.2.2.1, r40.2.2.1, w.2.2.2.2.2.1, w.2.2.2.2.2.2.1, w.2.2.2.2.2.2.2.1, r40.2.2.2.1) r40.2.2.2.2.1 sp mp mf ml r40.2.2.2.2.2 nm mu ch wy nx r38.2.1 (x4 + 5) else some (0, (r38.2.2.1, g.2.1, g.2.2.1, r38.2.2.2.1, r38.2.2.2.2.1, g.2.2.2.2.2.1, g.2.2.2.2.2.2.1, g.2.2.2.2.2.2.2.1, g.2.2.2.2.2.2.2.2.1, g.2.2.2.2.2.2.2.2.2), li, su, r38.2.2.2.2.2.1, r38.2.2.2.2.2.2.1, r38.2.2.2.2.2.2.2.1, ctb, lcb, adb, fx, us, r38.2.2.2.2.2.2.2.2.1, pt, r38.2.2.2.2.2.2.2.2.2, br, rw, (w.1, r40.2.1, w.2.2.1, w.2.2.2.1, r40.2.2.1, w.2.2.2.2.2.1, w.2.2.2.2.2.2.1, w.2.2.2.2.2.2.2.1, r40.2.2.2.1), r40.2.2.2.2.1, sp, mp, mf, ml, r40.2.2.2.2.2, nm, mu, ch, wy, nx, r38.2.1)) else f_L_law_L23 L9 xs9 fuel (r38.2.2.1, g.2.1, g.2.2.1, r38.2.2.2.1, r38.2.2.2.2.1, g.2.2.2.2.2.1, g.2.2.2.2.2.2.1, g.2.2.2.2.2.2.2.1, g.2.2.2.2.2.2.2.2.1, g.2.2.2.2.2.2.2.2.2) li su r38.2.2.2.2.2.1 r38.2.2.2.2.2.2.1 r38.2.2.2.2.2.2.2.1 ctb lcb adb fx us r38.2.2.2.2.2.2.2.2.1 pt r38.2.2.2.2.2.2.2.2.2 br rw (w.1, r40.2.1, w.2.2.1, w.2.2.2.1, r40.2.2.1, w.2.2.2.2.2.1, w.2.2.2.2.2.2.1, w.2.2.2.2.2.2.2.1, r40.2.2.2.1) r40.2.2.2.2.1 sp mp mf ml r40.2.2.2.2.2 nm mu ch wy nx r38.2.1 (x4 + 5)) else some (0, (r38.2.2.1, g.2.1, g.2.2.1, r38.2.2.2.1, r38.2.2.2.2.1, g.2.2.2.2.2.1, g.2.2.2.2.2.2.1, g.2.2.2.2.2.2.2.1, g.2.2.2.2.2.2.2.2.1, g.2.2.2.2.2.2.2.2.2), li, su, r38.2.2.2.2.2.1, r38.2.2.2.2.2.2.1, r38.2.2.2.2.2.2.2.1, ctb, lcb, adb, fx, us, r38.2.2.2.2.2.2.2.2.1, pt, r38.2.2.2.2.2.2.2.2.2, br, rw, (w.1, r40.2.1, w.2.2.1, w.2.2.2.1, r40.2.2.1, w.2.2.2.2.2.1, w.2.2.2.2.2.2.1, w.2.2.2.2.2.2.2.1, r40.2.2.2.1), r40.2.2.2.2.1, sp, mp, mf, ml, r40.2.2.2.2.2, nm, mu, ch, wy, nx, r38.2.1))))) else (if ((xs9 x4.toNatClampNeg) &&& 15) = 5 then (if am_in (x4 + 1) L9 = true then ((f_V_close g.2.2.2.1 (xs9 (x4 + 1).toNatClampNeg)).bind fun r49 => (if am_in (x4 + 1) L9 = true then ((f_M_close w.2.2.2.2.2.2.2.2 th (xs9 (x4 + 1).toNatClampNeg)).bind fun r52 => (if r49.1 = r52.1 then f_L_law_L23 L9 xs9 fuel (g.1, g.2.1, g.2.2.1, r49.2, g.2.2.2.2.1, g.2.2.2.2.2.1, g.2.2.2.2.2.2.1, g.2.2.2.2.2.2.2.1, g.2.2.2.2.2.2.2.2.1, g.2.2.2.2.2.2.2.2.2) li su ct lc ad ctb lcb adb fx us ln pt tx br rw (w.1, w.2.1, w.2.2.1, w.2.2.2.1, w.2.2.2.2.1, w.2.2.2.2.2.1, w.2.2.2.2.2.2.1, w.2.2.2.2.2.2.2.1, r52.2.1) r52.2.2 sp mp mf ml ps nm mu ch wy nx ou (x4 + 5) else some (0, (g.1, g.2.1, g.2.2.1, r49.2, g.2.2.2.2.1, g.2.2.2.2.2.1, g.2.2.2.2.2.2.1, g.2.2.2.2.2.2.2.1, g.2.2.2.2.2.2.2.2.1, g.2.2.2.2.2.2.2.2.2), li, su, ct, lc, ad, ctb, lcb, adb, fx, us, ln, pt, tx, br, rw, (w.1, w.2.1, w.2.2.1, w.2.2.2.1, w.2.2.2.2.1, w.2.2.2.2.2.1, w.2.2.2.2.2.2.1, w.2.2.2.2.2.2.2.1, r52.2.1), r52.2.2, sp, mp, mf, ml, ps, nm, mu, ch, wy, nx, ou))) else none)) else none) else (if ((xs9 x4.toNatClampNeg) &&& 15) = 6 then (if am_in (x4 + 1) L9 = true then (if am_in (x4 + 2) L9 = true then ((f_V_seek g.2.2.2.1 g.2.2.2.2.1 g.2.2.2.2.2.2.2.2.2 (xs9 (x4 + 1).toNatClampNeg) (xs9 (x4 + 2).toNatClampNeg)).bind fun r58 => (if am_in (x4 + 1) L9 = true then (if am_in (x4 + 2) L9 = true then ((f_M_seek w.2.2.2.2.2.2.2.1 w.2.2.2.2.2.2.2.2 th ps (xs9 (x4 + 1).toNatClampNeg) (xs9 (x4 + 2).toNatClampNeg)).bind fun r62 => (if r58.1 = r62.1 then f_L_law_L23 L9 xs9 fuel (g.1, g.2.1, g.2.2.1, g.2.2.2.1, r58.2, g.2.2.2.2.2.1, g.2.2.2.2.2.2.1, g.2.2.2.2.2.2.2.1, g.2.2.2.2.2.2.2.2.1, g.2.2.2.2.2.2.2.2.2) li su ct lc ad ctb lcb adb fx us ln pt tx br rw w r62.2.1 sp mp mf ml r62.2.2 nm mu ch wy nx ou (x4 + 5) else some (0, (g.1, g.2.1, g.2.2.1, g.2.2.2.1, r58.2, g.2.2.2.2.2.1, g.2.2.2.2.2.2.1, g.2.2.2.2.2.2.2.1, g.2.2.2.2.2.2.2.2.1, g.2.2.2.2.2.2.2.2.2), li, su, ct, lc, ad, ctb, lcb, adb, fx, us, ln, pt, tx, br, rw, w, r62.2.1, sp, mp, mf, ml, r62.2.2, nm, mu, ch, wy, nx, ou))) else none) else none)) else none) else none) else (if ((xs9 x4.toNatClampNeg) &&& 15) = 7 then (if am_in (x4 + 1) L9 = true then (if am_in (x4 + 2) L9 = true then ((f_H_read g.2.2.2.1 g.2.2.2.2.1 g.2.2.2.2.2.1 su g.2.2.2.2.2.2.2.2.2 ou (xs9 (x4 + 1).toNatClampNeg) (xs9 (x4 + 2).toNatClampNeg)).bind fun r68 => (if am_in (x4 + 1) L9 = true then (if am_in (x4 + 2) L9 = true then ((f_M_read w.1 w.2.1 w.2.2.2.2.2.2.2.1 w.2.2.2.2.2.2.2.2 th sp ps (xs9 (x4 + 1).toNatClampNeg) (xs9 (x4 + 2).toNatClampNeg)).bind fun r72 => ((f_M_thrown r72.2.2.1).bind fun r74 => (if r74 = r68.1 then (if r68.1 = 0 then (if (lg_cmp (r68.2.1 (0 : Int32).toNatClampNeg) r72.1) = 0 then f_L_law_L23 L9 xs9 fuel (g.1, g.2.1, g.2.2.1, g.2.2.2.1, r68.2.2, g.2.2.2.2.2.1, g.2.2.2.2.2.2.1, g.2.2.2.2.2.2.2.1, g.2.2.2.2.2.2.2.2.1, g.2.2.2.2.2.2.2.2.2) li su ct lc ad ctb lcb adb fx us ln pt tx br rw (w.1, r72.2.1, w.2.2.1, w.2.2.2.1, w.2.2.2.2.1, w.2.2.2.2.2.1, w.2.2.2.2.2.2.1, w.2.2.2.2.2.2.2.1, w.2.2.2.2.2.2.2.2) r72.2.2.1 sp mp mf ml r72.2.2.2 nm mu ch wy nx r68.2.1 (x4 + 5) else some (0, (g.1, g.2.1, g.2.2.1, g.2.2.2.1, r68.2.2, g.2.2.2.2.2.1, g.2.2.2.2.2.2.1, g.2.2.2.2.2.2.2.1, g.2.2.2.2.2.2.2.2.1, g.2.2.2.2.2.2.2.2.2), li, su, ct, lc, ad, ctb, lcb, adb, fx, us, ln, pt, tx, br, rw, (w.1, r72.2.1, w.2.2.1, w.2.2.2.1, w.2.2.2.2.1, w.2.2.2.2.2.1, w.2.2.2.2.2.2.1, w.2.2.2.2.2.2.2.1, w.2.2.2.2.2.2.2.2), r72.2.2.1, sp, mp, mf, ml, r72.2.2.2, nm, mu, ch, wy, nx, r68.2.1)) else f_L_law_L23 L9 xs9 fuel (g.1, g.2.1, g.2.2.1, g.2.2.2.1, r68.2.2, g.2.2.2.2.2.1, g.2.2.2.2.2.2.1, g.2.2.2.2.2.2.2.1, g.2.2.2.2.2.2.2.2.1, g.2.2.2.2.2.2.2.2.2) li su ct lc ad ctb lcb adb fx us ln pt tx br rw (w.1, r72.2.1, w.2.2.1, w.2.2.2.1, w.2.2.2.2.1, w.2.2.2.2.2.1, w.2.2.2.2.2.2.1, w.2.2.2.2.2.2.2.1, w.2.2.2.2.2.2.2.2) r72.2.2.1 sp mp mf ml r72.2.2.2 nm mu ch wy nx r68.2.1 (x4 + 5)) else some (0, (g.1, g.2.1, g.2.2.1, g.2.2.2.1, r68.2.2, g.2.2.2.2.2.1, g.2.2.2.2.2.2.1, g.2.2.2.2.2.2.2.1, g.2.2.2.2.2.2.2.2.1, g.2.2.2.2.2.2.2.2.2), li, su, ct, lc, ad, ctb, lcb, adb, fx, us, ln, pt, tx, br, rw, (w.1, r72.2.1, w.2.2.1, w.2.2.2.1, w.2.2.2.2.1, w.2.2.2.2.2.1, w.2.2.2.2.2.2.1, w.2.2.2.2.2.2.2.1, w.2.2.2.2.2.2.2.2), r72.2.2.1, sp, mp, mf, ml, r72.2.2.2, nm, mu, ch, wy, nx, r68.2.1)))) else none) else none)) else none) else none) else (if ((xs9 x4.toNatClampNeg) &&& 15) = 8 then (if am_in (x4 + 1) L9 = true then (if am_in (x4 + 2) L9 = true then (if am_in (x4 + 3) L9 = true then (if am_in (x4 + 4) L9 = true then ((f_H_write g su rw ou (xs9 (x4 + 1).toNatClampNeg) ((((xs9 (x4 + 2).toNatClampNeg).toInt64) <<< ((32 : Int32).toInt64 &&& 63)) ||| (((xs9 (x4 + 3).toNatClampNeg).toInt64) &&& 4294967295)) (xs9 (x4 + 4).toNatClampNeg)).bind fun r84 => (if am_in (x4 + 1) L9 = true then (if am_in (x4 + 2) L9 = true then (if am_in (x4 + 3) L9 = true then (if am_in (x4 + 4) L9 = true then ((f_M_write w th sp ps (xs9 (x4 + 1).toNatClampNeg) ((((xs9 (x4 + 2).toNatClampNeg).toInt64) <<< ((32 : Int32).toInt64 &&& 63)) ||| (((xs9 (x4 + 3).toNatClampNeg).toInt64) &&& 4294967295)) (xs9 (x4 + 4).toNatClampNeg)).bind fun r90 => ((f_M_thrown r90.2.2.1).bind fun r92 => (if r92 = r84.1 then (if r84.1 = 0 then (if (lg_cmp (r84.2.1 (0 : Int32).toNatClampNeg) r90.1.toInt64) = 0 then f_L_law_L23 L9 xs9 fuel r84.2.2.1 li su ct lc ad ctb lcb adb fx us ln pt tx br r84.2.2.2 r90.2.1 r90.2.2.1 sp mp mf ml r90.2.2.2 nm mu ch wy nx r84.2.1 (x4 + 5) else some (0, r84.2.2.1, li, su, ct, lc, ad, ctb, lcb, adb, fx, us, ln, pt, tx, br, r84.2.2.2, r90.2.1, r90.2.2.1, sp, mp, mf, ml, r90.2.2.2, nm, mu, ch, wy, nx, r84.2.1)) else f_L_law_L23 L9 xs9 fuel r84.2.2.1 li su ct lc ad ctb lcb adb fx us ln pt tx br r84.2.2.2 r90.2.1 r90.2.2.1 sp mp mf ml r90.2.2.2 nm mu ch wy nx r84.2.1 (x4 + 5)) else some (0, r84.2.2.1, li, su, ct, lc, ad, ctb, lcb, adb, fx, us, ln, pt, tx, br, r84.2.2.2, r90.2.1, r90.2.2.1, sp, mp, mf, ml, r90.2.2.2, nm, mu, ch, wy, nx, r84.2.1)))) else none) else none) else none) else none)) else none) else none) else none) else none) else (if ((xs9 x4.toNatClampNeg) &&& 15) = 9 then (if am_in (x4 + 1) L9 = true then (if am_in (x4 + 2) L9 = true then ((f_H_list g.2.1 g.2.2.2.2.2.1 su g.2.2.2.2.2.2.2.2.2 ct lc ad ou (xs9 (x4 + 1).toNatClampNeg) (xs9 (x4 + 2).toNatClampNeg)).bind fun r100 => (if am_in (x4 + 1) L9 = true then (if am_in (x4 + 2) L9 = true then ((f_M_list w.1 w.2.1 w.2.2.2.2.2.1 w.2.2.2.2.2.2.2.1 th sp (xs9 (x4 + 1).toNatClampNeg) (xs9 (x4 + 2).toNatClampNeg)).bind fun r104 => ((f_M_thrown r104.2.2).bind fun r106 => (if r106 = r100.1 then (if r100.1 = 0 then (if (lg_cmp (r100.2.1 (0 : Int32).toNatClampNeg) r104.1.toInt64) = 0 then f_L_law_L23 L9 xs9 fuel g li su r100.2.2.1 r100.2.2.2.1 r100.2.2.2.2 ctb lcb adb fx us ln pt tx br rw (w.1, r104.2.1, w.2.2.1, w.2.2.2.1, w.2.2.2.2.1, w.2.2.2.2.2.1, w.2.2.2.2.2.2.1, w.2.2.2.2.2.2.2.1, w.2.2.2.2.2.2.2.2) r104.2.2 sp mp mf ml ps nm mu ch wy nx r100.2.1 (x4 + 5) else some (0, g, li, su, r100.2.2.1, r100.2.2.2.1, r100.2.2.2.2, ctb, lcb, adb, fx, us, ln, pt, tx, br, rw, (w.1, r104.2.1, w.2.2.1, w.2.2.2.1, w.2.2.2.2.1, w.2.2.2.2.2.1, w.2.2.2.2.2.2.1, w.2.2.2.2.2.2.2.1, w.2.2.2.2.2.2.2.2), r104.2.2, sp, mp, mf, ml, ps, nm, mu, ch, wy, nx, r100.2.1)) else f_L_law_L23 L9 xs9 fuel g li su r100.2.2.1 r100.2.2.2.1 r100.2.2.2.2 ctb lcb adb fx us ln pt tx br rw (w.1, r104.2.1, w.2.2.1, w.2.2.2.1, w.2.2.2.2.1, w.2.2.2.2.2.1, w.2.2.2.2.2.2.1, w.2.2.2.2.2.2.2.1, w.2.2.2.2.2.2.2.2) r104.2.2 sp mp mf ml ps nm mu ch wy nx r100.2.1 (x4 + 5)) else some (0, g, li, su, r100.2.2.1, r100.2.2.2.1, r100.2.2.2.2, ctb, lcb, adb, fx, us, ln, pt, tx, br, rw, (w.1, r104.2.1, w.2.2.1, w.2.2.2.1, w.2.2.2.2.1, w.2.2.2.2.2.1, w.2.2.2.2.2.2.1, w.2.2.2.2.2.2.2.1, w.2.2.2.2.2.2.2.2), r104.2.2, sp, mp, mf, ml, ps, nm, mu, ch, wy, nx, r100.2.1)))) else none) else none)) else none) else none) else (if ((xs9 x4.toNatClampNeg) &&& 15) = 10 then (if am_in (x4 + 1) L9 = true then ((f_V_cut g.2.2.2.2.2.1 g.2.2.2.2.2.2.2.1 g.2.2.2.2.2.2.2.2.1 (xs9 (x4 + 1).toNatClampNeg)).bind fun r113 => (if am_in (x4 + 1) L9 = true then ((f_M_cut w.1 w.2.2.2.1 th (xs9 (x4 + 1).toNatClampNeg)).bind fun r116 => (if r113.1 = r116.1 then f_L_law_L23 L9 xs9 fuel (g.1, g.2.1, g.2.2.1, g.2.2.2.1, g.2.2.2.2.1, g.2.2.2.2.2.1, g.2.2.2.2.2.2.1, r113.2.1, r113.2.2, g.2.2.2.2.2.2.2.2.2) li su ct lc ad ctb lcb adb fx us ln pt tx br rw (w.1, w.2.1, w.2.2.1, r116.2.1, w.2.2.2.2.1, w.2.2.2.2.2.1, w.2.2.2.2.2.2.1, w.2.2.2.2.2.2.2.1, w.2.2.2.2.2.2.2.2) r116.2.2 sp mp mf ml ps nm mu ch wy nx ou (x4 + 5) else some (0, (g.1, g.2.1, g.2.2.1, g.2.2.2.1, g.2.2.2.2.1, g.2.2.2.2.2.1, g.2.2.2.2.2.2.1, r113.2.1, r113.2.2, g.2.2.2.2.2.2.2.2.2), li, su, ct, lc, ad, ctb, lcb, adb, fx, us, ln, pt, tx, br, rw, (w.1, w.2.1, w.2.2.1, r116.2.1, w.2.2.2.2.1, w.2.2.2.2.2.1, w.2.2.2.2.2.2.1, w.2.2.2.2.2.2.2.1, w.2.2.2.2.2.2.2.2), r116.2.2, sp, mp, mf, ml, ps, nm, mu, ch, wy, nx, ou))) else none)) else none) else (if ((xs9 x4.toNatClampNeg) &&& 15) = 11 then ((f_V_power g.2.2.2.2.2.1).bind fun r120 => ((f_M_power w.1 th).bind fun r122 => (if r120.1 = r122.1 then f_L_law_L23 L9 xs9 fuel (g.1, g.2.1, g.2.2.1, g.2.2.2.1, g.2.2.2.2.1, r120.2, g.2.2.2.2.2.2.1, g.2.2.2.2.2.2.2.1, g.2.2.2.2.2.2.2.2.1, g.2.2.2.2.2.2.2.2.2) li su ct lc ad ctb lcb adb fx us ln pt tx br rw (r122.2.1, w.2.1, w.2.2.1, w.2.2.2.1, w.2.2.2.2.1, w.2.2.2.2.2.1, w.2.2.2.2.2.2.1, w.2.2.2.2.2.2.2.1, w.2.2.2.2.2.2.2.2) r122.2.2 sp mp mf ml ps nm mu ch wy nx ou (x4 + 5) else some (0, (g.1, g.2.1, g.2.2.1, g.2.2.2.1, g.2.2.2.2.1, r120.2, g.2.2.2.2.2.2.1, g.2.2.2.2.2.2.2.1, g.2.2.2.2.2.2.2.2.1, g.2.2.2.2.2.2.2.2.2), li, su, ct, lc, ad, ctb, lcb, adb, fx, us, ln, pt, tx, br, rw, (r122.2.1, w.2.1, w.2.2.1, w.2.2.2.1, w.2.2.2.2.1, w.2.2.2.2.2.1, w.2.2.2.2.2.2.1, w.2.2.2.2.2.2.2.1, w.2.2.2.2.2.2.2.2), r122.2.2, sp, mp, mf, ml, ps, nm, mu, ch, wy, nx, ou)))) else (if ((xs9 x4.toNatClampNeg) &&& 15) = 12 then ((f_H_repair g su ct lc ad fx us ou).bind fun r126 => ((f_M_repair w th sp mf mu ch wy nx).bind fun r128 => ((f_M_thrown r128.2.2.1).bind fun r130 => (if r130 = r126.1 then (if r126.1 = 0 then (if (lg_cmp (r126.2.1 (0 : Int32).toNatClampNeg) r128.1.toInt64) = 0 then f_L_law_L23 L9 xs9 fuel r126.2.2.1 li r126.2.2.2.1 r126.2.2.2.2.1 r126.2.2.2.2.2.1 r126.2.2.2.2.2.2.1 ctb lcb adb r126.2.2.2.2.2.2.2.1 r126.2.2.2.2.2.2.2.2 ln pt tx br rw r128.2.1 r128.2.2.1 r128.2.2.2.1 mp r128.2.2.2.2.1 ml ps nm r128.2.2.2.2.2.1 r128.2.2.2.2.2.2.1 r128.2.2.2.2.2.2.2.1 r128.2.2.2.2.2.2.2.2 r126.2.1 (x4 + 5) else some (0, r126.2.2.1, li, r126.2.2.2.1, r126.2.2.2.2.1, r126.2.2.2.2.2.1, r126.2.2.2.2.2.2.1, ctb, lcb, adb, r126.2.2.2.2.2.2.2.1, r126.2.2.2.2.2.2.2.2, ln, pt, tx, br, rw, r128.2.1, r128.2.2.1, r128.2.2.2.1, mp, r128.2.2.2.2.1, ml, ps, nm, r128.2.2.2.2.2.1, r128.2.2.2.2.2.2.1, r128.2.2.2.2.2.2.2.1, r128.2.2.2.2.2.2.2.2, r126.2.1)) else f_L_law_L23 L9 xs9 fuel r126.2.2.1 li r126.2.2.2.1 r126.2.2.2.2.1 r126.2.2.2.2.2.1 r126.2.2.2.2.2.2.1 ctb lcb adb r126.2.2.2.2.2.2.2.1 r126.2.2.2.2.2.2.2.2 ln pt tx br rw r128.2.1 r128.2.2.1 r128.2.2.2.1 mp r128.2.2.2.2.1 ml ps nm r128.2.2.2.2.2.1 r128.2.2.2.2.2.2.1 r128.2.2.2.2.2.2.2.1 r128.2.2.2.2.2.2.2.2 r126.2.1 (x4 + 5)) else some (0, r126.2.2.1, li, r126.2.2.2.1, r126.2.2.2.2.1, r126.2.2.2.2.2.1, r126.2.2.2.2.2.2.1, ctb, lcb, adb, r126.2.2.2.2.2.2.2.1, r126.2.2.2.2.2.2.2.2, ln, pt, tx, br, rw, r128.2.1, r128.2.2.1, r128.2.2.2.1, mp, r128.2.2.2.2.1, ml, ps, nm, r128.2.2.2.2.2.1, r128.2.2.2.2.2.2.1, r128.2.2.2.2.2.2.2.1, r128.2.2.2.2.2.2.2.2, r126.2.1))))) else (if ((xs9 x4.toNatClampNeg) &&& 15) = 13 then (if am_in (x4 + 1) L9 = true then (if am_in (x4 + 2) L9 = true then ((f_V_octet g.2.2.2.2.2.2.2.2.2 (xs9 (x4 + 1).toNatClampNeg) (xs9 (x4 + 2).toNatClampNeg)).bind fun r138 => (if am_in (x4 + 1) L9 = true then (if am_in (x4 + 2) L9 = true then ((f_M_octet w.2.2.2.2.2.2.2.1 th (xs9 (x4 + 1).toNatClampNeg) (xs9 (x4 + 2).toNatClampNeg)).bind fun r142 => (if r138 = r142.1 then f_L_law_L23 L9 xs9 fuel g li su ct lc ad ctb lcb adb fx us ln pt tx br rw w r142.2 sp mp mf ml ps nm mu ch wy nx ou (x4 + 5) else some (0, g, li, su, ct, lc, ad, ctb, lcb, adb, fx, us, ln, pt, tx, br, rw, w, r142.2, sp, mp, mf, ml, ps, nm, mu, ch, wy, nx, ou))) else none) else none)) else none) else none) else (if ((xs9 x4.toNatClampNeg) &&& 15) = 14 then (if am_in (x4 + 1) L9 = true then (if am_in (x4 + 2) L9 = true then (if am_in (x4 + 3) L9 = true then ((f_V_poke g.2.1 g.2.2.1 g.2.2.2.1 g.2.2.2.2.1 su g.2.2.2.2.2.2.2.2.2 (xs9 (x4 + 1).toNatClampNeg) (xs9 (x4 + 2).toNatClampNeg) (xs9 (x4 + 3).toNatClampNeg)).bind fun r149 => (if am_in (x4 + 1) L9 = true then (if am_in (x4 + 2) L9 = true then (if am_in (x4 + 3) L9 = true then ((f_M_poke w.2.2.2.2.2.1 w.2.2.2.2.2.2.1 w.2.2.2.2.2.2.2.1 w.2.2.2.2.2.2.2.2 th sp (xs9 (x4 + 1).toNatClampNeg) (xs9 (x4 + 2).toNatClampNeg) (xs9 (x4 + 3).toNatClampNeg)).bind fun r154 => (if r149.1 = r154.1 then f_L_law_L23 L9 xs9 fuel (g.1, r149.2.1, r149.2.2.1, r149.2.2.2.1, r149.2.2.2.2.1, g.2.2.2.2.2.1, g.2.2.2.2.2.2.1, g.2.2.2.2.2.2.2.1, g.2.2.2.2.2.2.2.2.1, r149.2.2.2.2.2.2) li r149.2.2.2.2.2.1 ct lc ad ctb lcb adb fx us ln pt tx br rw (w.1, w.2.1, w.2.2.1, w.2.2.2.1, w.2.2.2.2.1, r154.2.1, r154.2.2.1, r154.2.2.2.1, r154.2.2.2.2.1) r154.2.2.2.2.2.1 r154.2.2.2.2.2.2 mp mf ml ps nm mu ch wy nx ou (x4 + 5) else some (0, (g.1, r149.2.1, r149.2.2.1, r149.2.2.2.1, r149.2.2.2.2.1, g.2.2.2.2.2.1, g.2.2.2.2.2.2.1, g.2.2.2.2.2.2.2.1, g.2.2.2.2.2.2.2.2.1, r149.2.2.2.2.2.2), li, r149.2.2.2.2.2.1, ct, lc, ad, ctb, lcb, adb, fx, us, ln, pt, tx, br, rw, (w.1, w.2.1, w.2.2.1, w.2.2.2.1, w.2.2.2.2.1, r154.2.1, r154.2.2.1, r154.2.2.2.1, r154.2.2.2.2.1), r154.2.2.2.2.2.1, r154.2.2.2.2.2.2, mp, mf, ml, ps, nm, mu, ch, wy, nx, ou))) else none) else none) else none)) else none) else none) else none) else (if ((xs9 x4.toNatClampNeg) &&& 15) = 15 then (if am_in (x4 + 1) L9 = true then ((f_V_look g.1 g.2.1 g.2.2.2.1 g.2.2.2.2.1 g.2.2.2.2.2.1 g.2.2.2.2.2.2.1 g.2.2.2.2.2.2.2.2.2 (xs9 (x4 + 1).toNatClampNeg)).bind fun r159 => (if am_in (x4 + 1) L9 = true then ((f_M_look w.1 w.2.2.1 w.2.2.2.2.1 w.2.2.2.2.2.1 w.2.2.2.2.2.2.2.1 w.2.2.2.2.2.2.2.2 th ps (xs9 (x4 + 1).toNatClampNeg)).bind fun r162 => (if r159 = r162.1 then f_L_law_L23 L9 xs9 fuel g li su ct lc ad ctb lcb adb fx us ln pt tx br rw w r162.2 sp mp mf ml ps nm mu ch wy nx ou (x4 + 5) else some (0, g, li, su, ct, lc, ad, ctb, lcb, adb, fx, us, ln, pt, tx, br, rw, w, r162.2, sp, mp, mf, ml, ps, nm, mu, ch, wy, nx, ou))) else none)) else none) else f_L_law_L23 L9 xs9 fuel g li su ct lc ad ctb lcb adb fx us ln pt tx br rw w th sp mp mf ml ps nm mu ch wy nx ou (x4 + 5))))))))))))))))) else none))
def ws_L : List Cond := .tt :: am_tw
set_option maxHeartbeats 8000000 in
set_option maxRecDepth 100000 in
theorem s_L_law_L23 {l : Launch} {D : va_G} {dA : FieldType → ClassId} (htr : l.stackTraces = false) {L9 : Nat} {xs9 : Nat → Int32} {nm9 : String} {tb9 : List ExceptionTableEntry}  : ∀ (fuel nc ns : Nat) (g : am_WS) (li : Nat → Int32) (su : Int32) (ct : Int32) (lc : Int32) (ad : Nat → Int32) (ctb : Int32) (lcb : Int32) (adb : Nat → Int32) (fx : Int32) (us : Nat → Int32) (ln : Int32) (pt : Int32) (tx : Nat → Int32) (br : Nat → Int32) (rw : Nat → Int32) (w : am_MS) (th : Int32) (sp : Int32) (mp : Int32) (mf : Int32) (ml : Nat → Int32) (ps : Nat → Int32) (nm : Nat → Int32) (mu : Nat → Int32) (ch : Nat → Int32) (wy : Nat → Int32) (nx : Nat → Int32) (ou : Nat → Int64) (x4 : Int32) (r : Int32 × am_WS × (Nat → Int32) × Int32 × Int32 × Int32 × (Nat → Int32) × Int32 × Int32 × (Nat → Int32) × Int32 × (Nat → Int32) × Int32 × Int32 × (Nat → Int32) × (Nat → Int32) × (Nat → Int32) × am_MS × Int32 × Int32 × Int32 × Int32 × (Nat → Int32) × (Nat → Int32) × (Nat → Int32) × (Nat → Int32) × (Nat → Int32) × (Nat → Int32) × (Nat → Int32) × (Nat → Int64)), nc + fuel ≤ room_1.cells → ns + 6 * fuel ≤ room_1.slots → f_L_law_L23 L9 xs9 fuel g li su ct lc ad ctb lcb adb fx us ln pt tx br rw w th sp mp mf ml ps nm mu ch wy nx ou x4 = some r → ∀ o : am_O, .inl (some (.int r.1)) = o →
    am_G (am_kk l D dA) (ws_L, "FileVolumeLaw", code, 8, some .boolean, nm9, tb9, room_1, some (L9, xs9)) o (hL r.2.1.1 r.2.1.2.1 r.2.1.2.2.1 r.2.2.1 r.2.1.2.2.2.1 r.2.1.2.2.2.2.1 r.2.1.2.2.2.2.2.1 r.2.2.2.1 r.2.1.2.2.2.2.2.2.1 r.2.1.2.2.2.2.2.2.2.1 r.2.1.2.2.2.2.2.2.2.2.1 r.2.1.2.2.2.2.2.2.2.2.2 r.2.2.2.2.1 r.2.2.2.2.2.1 r.2.2.2.2.2.2.1 r.2.2.2.2.2.2.2.1 r.2.2.2.2.2.2.2.2.1 r.2.2.2.2.2.2.2.2.2.1 r.2.2.2.2.2.2.2.2.2.2.1 r.2.2.2.2.2.2.2.2.2.2.2.1 r.2.2.2.2.2.2.2.2.2.2.2.2.1 r.2.2.2.2.2.2.2.2.2.2.2.2.2.1 r.2.2.2.2.2.2.2.2.2.2.2.2.2.2.1 r.2.2.2.2.2.2.2.2.2.2.2.2.2.2.2.1 r.2.2.2.2.2.2.2.2.2.2.2.2.2.2.2.2.1 r.2.2.2.2.2.2.2.2.2.2.2.2.2.2.2.2.2.1.1 r.2.2.2.2.2.2.2.2.2.2.2.2.2.2.2.2.2.1.2.1 r.2.2.2.2.2.2.2.2.2.2.2.2.2.2.2.2.2.1.2.2.1 r.2.2.2.2.2.2.2.2.2.2.2.2.2.2.2.2.2.1.2.2.2.1 r.2.2.2.2.2.2.2.2.2.2.2.2.2.2.2.2.2.1.2.2.2.2.1 r.2.2.2.2.2.2.2.2.2.2.2.2.2.2.2.2.2.1.2.2.2.2.2.1 r.2.2.2.2.2.2.2.2.2.2.2.2.2.2.2.2.2.1.2.2.2.2.2.2.1 r.2.2.2.2.2.2.2.2.2.2.2.2.2.2.2.2.2.1.2.2.2.2.2.2.2.1 r.2.2.2.2.2.2.2.2.2.2.2.2.2.2.2.2.2.1.2.2.2.2.2.2.2.2 r.2.2.2.2.2.2.2.2.2.2.2.2.2.2.2.2.2.2.1 r.2.2.2.2.2.2.2.2.2.2.2.2.2.2.2.2.2.2.2.1 r.2.2.2.2.2.2.2.2.2.2.2.2.2.2.2.2.2.2.2.2.1 r.2.2.2.2.2.2.2.2.2.2.2.2.2.2.2.2.2.2.2.2.2.1 r.2.2.2.2.2.2.2.2.2.2.2.2.2.2.2.2.2.2.2.2.2.2.1 r.2.2.2.2.2.2.2.2.2.2.2.2.2.2.2.2.2.2.2.2.2.2.2.1 r.2.2.2.2.2.2.2.2.2.2.2.2.2.2.2.2.2.2.2.2.2.2.2.2.1 r.2.2.2.2.2.2.2.2.2.2.2.2.2.2.2.2.2.2.2.2.2.2.2.2.2.1 r.2.2.2.2.2.2.2.2.2.2.2.2.2.2.2.2.2.2.2.2.2.2.2.2.2.2.1 r.2.2.2.2.2.2.2.2.2.2.2.2.2.2.2.2.2.2.2.2.2.2.2.2.2.2.2.1 r.2.2.2.2.2.2.2.2.2.2.2.2.2.2.2.2.2.2.2.2.2.2.2.2.2.2.2.2.1 r.2.2.2.2.2.2.2.2.2.2.2.2.2.2.2.2.2.2.2.2.2.2.2.2.2.2.2.2.2) nc ns 23 [(0, .ref 99), (1, .ref 0), (2, .ref 18), (3, .ref 28), (4, .int x4)] [] (hL g.1 g.2.1 g.2.2.1 li g.2.2.2.1 g.2.2.2.2.1 g.2.2.2.2.2.1 su g.2.2.2.2.2.2.1 g.2.2.2.2.2.2.2.1 g.2.2.2.2.2.2.2.2.1 g.2.2.2.2.2.2.2.2.2 ct lc ad ctb lcb adb fx us ln pt tx br rw w.1 w.2.1 w.2.2.1 w.2.2.2.1 w.2.2.2.2.1 w.2.2.2.2.2.1 w.2.2.2.2.2.2.1 w.2.2.2.2.2.2.2.1 w.2.2.2.2.2.2.2.2 th sp mp mf ml ps nm mu ch wy nx ou) := by
  intro fuel
  induction fuel with
  | zero =>
    intro nc ns g li su ct lc ad ctb lcb adb fx us ln pt tx br rw w th sp mp mf ml ps nm mu ch wy nx ou x4 r hq hq2 hf
    cases hf
  | succ fuel ih =>
    intro nc ns g li su ct lc ad ctb lcb adb fx us ln pt tx br rw w th sp mp mf ml ps nm mu ch wy nx ou x4 r hq hq2 hf o ho
    subst ho
    rw [f_L_law_L23] at hf
    refine g_iload (n := 25) d_L_law_23 rfl 4 rfl ?_
    refine g_aload_n (n := 26) d_L_law_25 rfl 0 rfl rfl ?_
    refine g_slen (n := 27) d_L_law_26 rfl rfl (Nat.le_of_ble_eq_true rfl) ?_
    refine g_iconst (n := 28) (v := 5) d_L_law_27 rfl (by decide) ?_
    refine g_isub (n := 29) d_L_law_28 rfl ?_
    refine g_icmp_gt (n := 32) (tgt := 779) d_L_law_29 rfl (by decide) (fun q1 => ?_) (fun q1 => ?_)
    · have hf := ob_pos q1 hf
      refine g_iconst (n := 780) (v := 1) d_L_law_779 rfl (by decide) ?_
      cases hf
      exact g_zret d_L_law_780 rfl am_z1 (Nat.le_trans (by omega : nc ≤ nc + (fuel + 1)) hq) (Nat.le_trans (by omega : ns ≤ ns + 6 * (fuel + 1)) hq2)
    · have hf := ob_neg q1 hf
      refine g_aload_n (n := 33) d_L_law_32 rfl 0 rfl rfl ?_
      refine g_iload (n := 35) d_L_law_33 rfl 4 rfl ?_
      obtain ⟨b2, hf⟩ := ob_chk hf
      refine g_sld (n := 36) d_L_law_35 rfl rfl (am_inl b2) (Nat.le_of_ble_eq_true rfl) ?_
      refine g_bipush (n := 38) (v := 15) d_L_law_36 rfl (by decide) ?_
      refine g_iand (n := 39) d_L_law_38 rfl ?_
      by_cases q3 : ((xs9 x4.toNatClampNeg) &&& 15) = 0
      · have hf := ob_pos q3 hf
        refine g_tabIn (n := 116) d_L_law_39 (by rw [q3]; decide) (by rw [q3]; decide) (by rw [q3]; rfl) (by decide) ?_
        refine g_aload_n (n := 117) d_L_law_116 rfl 1 rfl rfl ?_
        refine g_aload_n (n := 118) d_L_law_117 rfl 0 rfl rfl ?_
        refine g_iload (n := 120) d_L_law_118 rfl 4 rfl ?_
        refine g_iconst (n := 121) (v := 1) d_L_law_120 rfl (by decide) ?_
        refine g_iadd (n := 122) d_L_law_121 rfl ?_
        obtain ⟨b4, hf⟩ := ob_chk hf
        refine g_sld (n := 123) d_L_law_122 rfl rfl (am_inl b4) (Nat.le_of_ble_eq_true rfl) ?_
        refine g_i2c (n := 124) d_L_law_123 rfl ?_
        obtain ⟨r5, h6, hf⟩ := ob_bind hf
        refine c_Vl (n := 127) (st' := [.int r5.1]) [.int (((xs9 (x4 + 1).toNatClampNeg).toUInt32 % 65536).toInt32)] [] d_L_law_124 rfl (s_V_type htr h6 rfl) tw_198 tw_199 tw_200 tw_1 tw_201 hd_V_type ⟨Nat.le_of_ble_eq_true rfl, Nat.le_of_ble_eq_true rfl⟩ (Nat.le_trans (by omega : nc ≤ nc + (fuel + 1)) hq) (Nat.le_trans (by omega : ns ≤ ns + 6 * (fuel + 1)) hq2) (ci := 6) rfl rfl rfl (Nat.le_of_ble_eq_true rfl) rfl rfl ?_
        refine g_aload_n (n := 128) d_L_law_127 rfl 2 rfl rfl ?_
        refine g_aload_n (n := 129) d_L_law_128 rfl 0 rfl rfl ?_
        refine g_iload (n := 131) d_L_law_129 rfl 4 rfl ?_
        refine g_iconst (n := 132) (v := 1) d_L_law_131 rfl (by decide) ?_
        refine g_iadd (n := 133) d_L_law_132 rfl ?_
        obtain ⟨b7, hf⟩ := ob_chk hf
        refine g_sld (n := 134) d_L_law_133 rfl rfl (am_inl b7) (Nat.le_of_ble_eq_true rfl) ?_
        refine g_i2c (n := 135) d_L_law_134 rfl ?_
        obtain ⟨r8, h9, hf⟩ := ob_bind hf
        refine c_Vl (n := 138) (st' := [.int r8.1, .int r5.1]) [.int (((xs9 (x4 + 1).toNatClampNeg).toUInt32 % 65536).toInt32)] [.int r5.1] d_L_law_135 rfl (t_M_type htr h9 rfl) tw_930 tw_931 tw_932 tw_8 tw_933 hd_M_type ⟨Nat.le_of_ble_eq_true rfl, Nat.le_of_ble_eq_true rfl⟩ (Nat.le_trans (by omega : nc ≤ nc + (fuel + 1)) hq) (Nat.le_trans (by omega : ns ≤ ns + 6 * (fuel + 1)) hq2) (ci := 7) rfl rfl rfl (Nat.le_of_ble_eq_true rfl) rfl rfl ?_
        refine g_icmp_eq (n := 141) (tgt := 773) d_L_law_138 rfl (by decide) (fun q10 => ?_) (fun q10 => ?_)
        · have hf := ob_pos q10 hf
          refine g_iinc (n := 776) (v := (x4 + 5)) (ls' := [(4, .int (x4 + 5)), (0, .ref 99), (1, .ref 0), (2, .ref 18), (3, .ref 28)]) d_L_law_773 rfl 4 rfl rfl (am_ltb rfl) rfl ?_
          refine g_goto (n := 23) d_L_law_776 (by decide) ?_
          refine g_ls [1, 2, 3, 4, 0] rfl ?_
          exact ih nc ns (r5.2.1, g.2.1, g.2.2.1, g.2.2.2.1, g.2.2.2.2.1, g.2.2.2.2.2.1, g.2.2.2.2.2.2.1, g.2.2.2.2.2.2.2.1, g.2.2.2.2.2.2.2.2.1, g.2.2.2.2.2.2.2.2.2) r5.2.2 su ct lc ad ctb lcb adb fx us ln pt tx br rw (w.1, w.2.1, w.2.2.1, w.2.2.2.1, r8.2.1, w.2.2.2.2.2.1, w.2.2.2.2.2.2.1, w.2.2.2.2.2.2.2.1, w.2.2.2.2.2.2.2.2) r8.2.2.1 sp mp mf r8.2.2.2 ps nm mu ch wy nx ou (x4 + 5) _ (Nat.le_trans (by omega : nc + fuel ≤ nc + (fuel + 1)) hq) (Nat.le_trans (by omega : ns + 6 * fuel ≤ ns + 6 * (fuel + 1)) hq2) hf _ rfl
        · have hf := ob_neg q10 hf
          refine g_iconst (n := 142) (v := 0) d_L_law_141 rfl (by decide) ?_
          cases hf
          exact g_zret d_L_law_142 rfl am_z0 (Nat.le_trans (by omega : nc ≤ nc + (fuel + 1)) hq) (Nat.le_trans (by omega : ns ≤ ns + 6 * (fuel + 1)) hq2)
      · have hf := ob_neg q3 hf
        by_cases q11 : ((xs9 x4.toNatClampNeg) &&& 15) = 1
        · have hf := ob_pos q11 hf
          refine g_tabIn (n := 143) d_L_law_39 (by rw [q11]; decide) (by rw [q11]; decide) (by rw [q11]; rfl) (by decide) ?_
          refine g_aload_n (n := 144) d_L_law_143 rfl 1 rfl rfl ?_
          refine g_aload_n (n := 145) d_L_law_144 rfl 0 rfl rfl ?_
          refine g_iload (n := 147) d_L_law_145 rfl 4 rfl ?_
          refine g_iconst (n := 148) (v := 1) d_L_law_147 rfl (by decide) ?_
          refine g_iadd (n := 149) d_L_law_148 rfl ?_
          obtain ⟨b12, hf⟩ := ob_chk hf
          refine g_sld (n := 150) d_L_law_149 rfl rfl (am_inl b12) (Nat.le_of_ble_eq_true rfl) ?_
          obtain ⟨r13, h14, hf⟩ := ob_bind hf
          refine c_SWl (n := 153) (st' := [.int r13.1]) [.ref 0, .int (xs9 (x4 + 1).toNatClampNeg)] [] d_L_law_150 rfl (s_H_create htr h14 rfl) tw_295 tw_296 tw_0 tw_297 hd_L_create ⟨Nat.le_of_ble_eq_true rfl, Nat.le_of_ble_eq_true rfl⟩ (Nat.le_trans (by omega : nc + 1 ≤ nc + (fuel + 1)) hq) (Nat.le_trans (by omega : ns + 6 ≤ ns + 6 * (fuel + 1)) hq2) rfl (Nat.le_of_ble_eq_true rfl) rfl rfl ?_
          refine g_istore (n := 155) (ls' := [(5, .int r13.1), (0, .ref 99), (1, .ref 0), (2, .ref 18), (3, .ref 28), (4, .int x4)]) d_L_law_153 rfl (am_ltb rfl) rfl ?_
          refine g_aload_n (n := 156) d_L_law_155 rfl 3 rfl rfl ?_
          refine g_aload_n (n := 157) d_L_law_156 rfl 1 rfl rfl ?_
          refine g_iload (n := 159) d_L_law_157 rfl 5 rfl ?_
          refine g_iconst (n := 160) (v := 1) d_L_law_159 rfl (by decide) ?_
          refine g_iadd (n := 161) d_L_law_160 rfl ?_
          obtain ⟨b15, hf⟩ := ob_chk hf
          refine g_sld (n := 162) d_L_law_161 rfl rfl (am_inl b15) (Nat.le_of_ble_eq_true rfl) ?_
          obtain ⟨r16, h17, hf⟩ := ob_bind hf
          refine c_Vl (n := 165) (st' := []) [.int (xs9 (x4 + 1).toNatClampNeg)] [] d_L_law_162 rfl (t_M_create htr h17 rfl) tw_934 tw_935 tw_936 tw_8 tw_937 hd_M_create ⟨Nat.le_of_ble_eq_true rfl, Nat.le_of_ble_eq_true rfl⟩ (Nat.le_trans (by omega : nc + 1 ≤ nc + (fuel + 1)) hq) (Nat.le_trans (by omega : ns + 6 ≤ ns + 6 * (fuel + 1)) hq2) (ci := 7) rfl rfl rfl (Nat.le_of_ble_eq_true rfl) rfl rfl ?_
          refine g_aload_n (n := 166) d_L_law_165 rfl 3 rfl rfl ?_
          obtain ⟨r18, h19, hf⟩ := ob_bind hf
          refine c_Vl (n := 169) (st' := [.int r18]) [] [] d_L_law_166 rfl (t_M_thrown htr h19 rfl) tw_926 tw_927 tw_928 tw_8 tw_929 hd_M_thrown ⟨Nat.le_of_ble_eq_true rfl, Nat.le_of_ble_eq_true rfl⟩ (Nat.le_trans (by omega : nc + 1 ≤ nc + (fuel + 1)) hq) (Nat.le_trans (by omega : ns + 6 ≤ ns + 6 * (fuel + 1)) hq2) (ci := 7) rfl rfl rfl (Nat.le_of_ble_eq_true rfl) rfl rfl ?_
          refine g_iload (n := 171) d_L_law_169 rfl 0 rfl ?_
          refine g_icmp_eq (n := 174) (tgt := 176) d_L_law_171 rfl (by decide) (fun q20 => ?_) (fun q20 => ?_)
          · have hf := ob_pos q20 hf
            refine g_goto (n := 773) d_L_law_176 (by decide) ?_
            refine g_iinc (n := 776) (v := (x4 + 5)) (ls' := [(4, .int (x4 + 5)), (5, .int r13.1), (0, .ref 99), (1, .ref 0), (2, .ref 18), (3, .ref 28)]) d_L_law_773 rfl 5 rfl rfl (am_ltb rfl) rfl ?_
            refine g_goto (n := 23) d_L_law_776 (by decide) ?_
            refine g_ls [2, 3, 4, 5, 0] rfl ?_
            exact ih (nc + 1) (ns + 6) r13.2.1 li su r13.2.2.1 r13.2.2.2.1 r13.2.2.2.2.1 ctb lcb adb fx us r13.2.2.2.2.2.1 r13.2.2.2.2.2.2.1 r13.2.2.2.2.2.2.2.1 r13.2.2.2.2.2.2.2.2.1 r13.2.2.2.2.2.2.2.2.2 r16.1 r16.2.1 sp r16.2.2.1 mf ml ps r16.2.2.2 mu ch wy nx ou (x4 + 5) _ (Nat.le_trans (by omega : nc + 1 + fuel ≤ nc + (fuel + 1)) hq) (Nat.le_trans (by omega : ns + 6 + 6 * fuel ≤ ns + 6 * (fuel + 1)) hq2) hf _ rfl
          · have hf := ob_neg q20 hf
            refine g_iconst (n := 175) (v := 0) d_L_law_174 rfl (by decide) ?_
            cases hf
            exact g_zret d_L_law_175 rfl am_z0 (Nat.le_trans (by omega : nc + 1 ≤ nc + (fuel + 1)) hq) (Nat.le_trans (by omega : ns + 6 ≤ ns + 6 * (fuel + 1)) hq2)
        · have hf := ob_neg q11 hf
          by_cases q21 : ((xs9 x4.toNatClampNeg) &&& 15) = 2
          · have hf := ob_pos q21 hf
            refine g_tabIn (n := 179) d_L_law_39 (by rw [q21]; decide) (by rw [q21]; decide) (by rw [q21]; rfl) (by decide) ?_
            refine g_aload_n (n := 180) d_L_law_179 rfl 1 rfl rfl ?_
            obtain ⟨r22, h23, hf⟩ := ob_bind hf
            refine c_SWl (n := 183) (st' := [.int r22.1]) [.ref 0] [] d_L_law_180 rfl (s_H_delete htr h23 rfl) tw_592 tw_593 tw_0 tw_594 hd_L_delete ⟨Nat.le_of_ble_eq_true rfl, Nat.le_of_ble_eq_true rfl⟩ (Nat.le_trans (by omega : nc + 1 ≤ nc + (fuel + 1)) hq) (Nat.le_trans (by omega : ns + 6 ≤ ns + 6 * (fuel + 1)) hq2) rfl (Nat.le_of_ble_eq_true rfl) rfl rfl ?_
            refine g_istore (n := 185) (ls' := [(5, .int r22.1), (0, .ref 99), (1, .ref 0), (2, .ref 18), (3, .ref 28), (4, .int x4)]) d_L_law_183 rfl (am_ltb rfl) rfl ?_
            refine g_aload_n (n := 186) d_L_law_185 rfl 3 rfl rfl ?_
            obtain ⟨r24, h25, hf⟩ := ob_bind hf
            refine c_Vl (n := 189) (st' := []) [] [] d_L_law_186 rfl (t_M_delete htr h25 rfl) tw_1049 tw_1050 tw_1051 tw_8 tw_1052 hd_M_delete ⟨Nat.le_of_ble_eq_true rfl, Nat.le_of_ble_eq_true rfl⟩ (Nat.le_trans (by omega : nc + 1 ≤ nc + (fuel + 1)) hq) (Nat.le_trans (by omega : ns + 6 ≤ ns + 6 * (fuel + 1)) hq2) (ci := 7) rfl rfl rfl (Nat.le_of_ble_eq_true rfl) rfl rfl ?_
            refine g_aload_n (n := 190) d_L_law_189 rfl 3 rfl rfl ?_
            obtain ⟨r26, h27, hf⟩ := ob_bind hf
            refine c_Vl (n := 193) (st' := [.int r26]) [] [] d_L_law_190 rfl (t_M_thrown htr h27 rfl) tw_926 tw_927 tw_928 tw_8 tw_929 hd_M_thrown ⟨Nat.le_of_ble_eq_true rfl, Nat.le_of_ble_eq_true rfl⟩ (Nat.le_trans (by omega : nc + 1 ≤ nc + (fuel + 1)) hq) (Nat.le_trans (by omega : ns + 6 ≤ ns + 6 * (fuel + 1)) hq2) (ci := 7) rfl rfl rfl (Nat.le_of_ble_eq_true rfl) rfl rfl ?_
            refine g_iload (n := 195) d_L_law_193 rfl 0 rfl ?_
            refine g_icmp_eq (n := 198) (tgt := 200) d_L_law_195 rfl (by decide) (fun q28 => ?_) (fun q28 => ?_)
            · have hf := ob_pos q28 hf
              refine g_goto (n := 773) d_L_law_200 (by decide) ?_
              refine g_iinc (n := 776) (v := (x4 + 5)) (ls' := [(4, .int (x4 + 5)), (5, .int r22.1), (0, .ref 99), (1, .ref 0), (2, .ref 18), (3, .ref 28)]) d_L_law_773 rfl 5 rfl rfl (am_ltb rfl) rfl ?_
              refine g_goto (n := 23) d_L_law_776 (by decide) ?_
              refine g_ls [2, 3, 4, 5, 0] rfl ?_
              exact ih (nc + 1) (ns + 6) r22.2.1 li su r22.2.2.1 r22.2.2.2.1 r22.2.2.2.2.1 r22.2.2.2.2.2.1 r22.2.2.2.2.2.2.1 r22.2.2.2.2.2.2.2.1 fx us r22.2.2.2.2.2.2.2.2.1 pt r22.2.2.2.2.2.2.2.2.2 br rw r24.1 r24.2 sp mp mf ml ps nm mu ch wy nx ou (x4 + 5) _ (Nat.le_trans (by omega : nc + 1 + fuel ≤ nc + (fuel + 1)) hq) (Nat.le_trans (by omega : ns + 6 + 6 * fuel ≤ ns + 6 * (fuel + 1)) hq2) hf _ rfl
            · have hf := ob_neg q28 hf
              refine g_iconst (n := 199) (v := 0) d_L_law_198 rfl (by decide) ?_
              cases hf
              exact g_zret d_L_law_199 rfl am_z0 (Nat.le_trans (by omega : nc + 1 ≤ nc + (fuel + 1)) hq) (Nat.le_trans (by omega : ns + 6 ≤ ns + 6 * (fuel + 1)) hq2)
          · have hf := ob_neg q21 hf
            by_cases q29 : ((xs9 x4.toNatClampNeg) &&& 15) = 3
            · have hf := ob_pos q29 hf
              refine g_tabIn (n := 203) d_L_law_39 (by rw [q29]; decide) (by rw [q29]; decide) (by rw [q29]; rfl) (by decide) ?_
              refine g_aload_n (n := 204) d_L_law_203 rfl 1 rfl rfl ?_
              obtain ⟨r30, h31, hf⟩ := ob_bind hf
              refine c_SWl (n := 207) (st' := [.int r30.1]) [.ref 0] [] d_L_law_204 rfl (s_H_enter htr h31 rfl) tw_653 tw_654 tw_0 tw_655 hd_L_enter ⟨Nat.le_of_ble_eq_true rfl, Nat.le_of_ble_eq_true rfl⟩ (Nat.le_trans (by omega : nc + 1 ≤ nc + (fuel + 1)) hq) (Nat.le_trans (by omega : ns + 6 ≤ ns + 6 * (fuel + 1)) hq2) rfl (Nat.le_of_ble_eq_true rfl) rfl rfl ?_
              refine g_istore (n := 209) (ls' := [(5, .int r30.1), (0, .ref 99), (1, .ref 0), (2, .ref 18), (3, .ref 28), (4, .int x4)]) d_L_law_207 rfl (am_ltb rfl) rfl ?_
              refine g_aload_n (n := 210) d_L_law_209 rfl 3 rfl rfl ?_
              obtain ⟨r32, h33, hf⟩ := ob_bind hf
              refine c_Vl (n := 213) (st' := []) [] [] d_L_law_210 rfl (t_M_enter htr h33 rfl) tw_1065 tw_1066 tw_1067 tw_8 tw_1068 hd_M_enter ⟨Nat.le_of_ble_eq_true rfl, Nat.le_of_ble_eq_true rfl⟩ (Nat.le_trans (by omega : nc + 1 ≤ nc + (fuel + 1)) hq) (Nat.le_trans (by omega : ns + 6 ≤ ns + 6 * (fuel + 1)) hq2) (ci := 7) rfl rfl rfl (Nat.le_of_ble_eq_true rfl) rfl rfl ?_
              refine g_aload_n (n := 214) d_L_law_213 rfl 3 rfl rfl ?_
              obtain ⟨r34, h35, hf⟩ := ob_bind hf
              refine c_Vl (n := 217) (st' := [.int r34]) [] [] d_L_law_214 rfl (t_M_thrown htr h35 rfl) tw_926 tw_927 tw_928 tw_8 tw_929 hd_M_thrown ⟨Nat.le_of_ble_eq_true rfl, Nat.le_of_ble_eq_true rfl⟩ (Nat.le_trans (by omega : nc + 1 ≤ nc + (fuel + 1)) hq) (Nat.le_trans (by omega : ns + 6 ≤ ns + 6 * (fuel + 1)) hq2) (ci := 7) rfl rfl rfl (Nat.le_of_ble_eq_true rfl) rfl rfl ?_
              refine g_iload (n := 219) d_L_law_217 rfl 0 rfl ?_
              refine g_icmp_eq (n := 222) (tgt := 224) d_L_law_219 rfl (by decide) (fun q36 => ?_) (fun q36 => ?_)
              · have hf := ob_pos q36 hf
                refine g_goto (n := 773) d_L_law_224 (by decide) ?_
                refine g_iinc (n := 776) (v := (x4 + 5)) (ls' := [(4, .int (x4 + 5)), (5, .int r30.1), (0, .ref 99), (1, .ref 0), (2, .ref 18), (3, .ref 28)]) d_L_law_773 rfl 5 rfl rfl (am_ltb rfl) rfl ?_
                refine g_goto (n := 23) d_L_law_776 (by decide) ?_
                refine g_ls [2, 3, 4, 5, 0] rfl ?_
                exact ih (nc + 1) (ns + 6) (r30.2.1, r30.2.2.1, r30.2.2.2.1, g.2.2.2.1, g.2.2.2.2.1, g.2.2.2.2.2.1, g.2.2.2.2.2.2.1, g.2.2.2.2.2.2.2.1, g.2.2.2.2.2.2.2.2.1, g.2.2.2.2.2.2.2.2.2) li su r30.2.2.2.2.1 r30.2.2.2.2.2.1 r30.2.2.2.2.2.2.1 ctb lcb adb fx us r30.2.2.2.2.2.2.2.1 pt r30.2.2.2.2.2.2.2.2 br rw (w.1, r32.1, w.2.2.1, w.2.2.2.1, r32.2.1, r32.2.2.1, r32.2.2.2.1, w.2.2.2.2.2.2.2.1, w.2.2.2.2.2.2.2.2) r32.2.2.2.2 sp mp mf ml ps nm mu ch wy nx ou (x4 + 5) _ (Nat.le_trans (by omega : nc + 1 + fuel ≤ nc + (fuel + 1)) hq) (Nat.le_trans (by omega : ns + 6 + 6 * fuel ≤ ns + 6 * (fuel + 1)) hq2) hf _ rfl
              · have hf := ob_neg q36 hf
                refine g_iconst (n := 223) (v := 0) d_L_law_222 rfl (by decide) ?_
                cases hf
                exact g_zret d_L_law_223 rfl am_z0 (Nat.le_trans (by omega : nc + 1 ≤ nc + (fuel + 1)) hq) (Nat.le_trans (by omega : ns + 6 ≤ ns + 6 * (fuel + 1)) hq2)
            · have hf := ob_neg q29 hf
              by_cases q37 : ((xs9 x4.toNatClampNeg) &&& 15) = 4
              · have hf := ob_pos q37 hf
                refine g_tabIn (n := 227) d_L_law_39 (by rw [q37]; decide) (by rw [q37]; decide) (by rw [q37]; rfl) (by decide) ?_
                refine g_aload_n (n := 228) d_L_law_227 rfl 1 rfl rfl ?_
                refine g_aload_n (n := 229) d_L_law_228 rfl 3 rfl rfl ?_
                obtain ⟨r38, h39, hf⟩ := ob_bind hf
                refine c_SWl (n := 232) (st' := [.int r38.1]) [.ref 0, .ref 28] [] d_L_law_229 rfl (s_H_open htr h39 rfl) tw_669 tw_670 tw_0 tw_671 hd_L_open ⟨Nat.le_of_ble_eq_true rfl, Nat.le_of_ble_eq_true rfl⟩ (Nat.le_trans (by omega : nc + 1 ≤ nc + (fuel + 1)) hq) (Nat.le_trans (by omega : ns + 6 ≤ ns + 6 * (fuel + 1)) hq2) rfl (Nat.le_of_ble_eq_true rfl) rfl rfl ?_
                refine g_istore (n := 234) (ls' := [(5, .int r38.1), (0, .ref 99), (1, .ref 0), (2, .ref 18), (3, .ref 28), (4, .int x4)]) d_L_law_232 rfl (am_ltb rfl) rfl ?_
                refine g_aload_n (n := 235) d_L_law_234 rfl 3 rfl rfl ?_
                obtain ⟨r40, h41, hf⟩ := ob_bind hf
                refine c_Vl (n := 238) (st' := [.int r40.1]) [] [] d_L_law_235 rfl (t_M_open htr h41 rfl) tw_1069 tw_1070 tw_1071 tw_8 tw_1072 hd_M_open ⟨Nat.le_of_ble_eq_true rfl, Nat.le_of_ble_eq_true rfl⟩ (Nat.le_trans (by omega : nc + 1 ≤ nc + (fuel + 1)) hq) (Nat.le_trans (by omega : ns + 6 ≤ ns + 6 * (fuel + 1)) hq2) (ci := 7) rfl rfl rfl (Nat.le_of_ble_eq_true rfl) rfl rfl ?_
                refine g_istore (n := 240) (ls' := [(6, .int r40.1), (5, .int r38.1), (0, .ref 99), (1, .ref 0), (2, .ref 18), (3, .ref 28), (4, .int x4)]) d_L_law_238 rfl (am_ltb rfl) rfl ?_
                refine g_aload_n (n := 241) d_L_law_240 rfl 4 rfl rfl ?_
                obtain ⟨r42, h43, hf⟩ := ob_bind hf
                refine c_Vl (n := 244) (st' := [.int r42]) [] [] d_L_law_241 rfl (t_M_thrown htr h43 rfl) tw_926 tw_927 tw_928 tw_8 tw_929 hd_M_thrown ⟨Nat.le_of_ble_eq_true rfl, Nat.le_of_ble_eq_true rfl⟩ (Nat.le_trans (by omega : nc + 1 ≤ nc + (fuel + 1)) hq) (Nat.le_trans (by omega : ns + 6 ≤ ns + 6 * (fuel + 1)) hq2) (ci := 7) rfl rfl rfl (Nat.le_of_ble_eq_true rfl) rfl rfl ?_
                refine g_iload (n := 246) d_L_law_244 rfl 1 rfl ?_
                refine g_icmp_eq (n := 249) (tgt := 251) d_L_law_246 rfl (by decide) (fun q44 => ?_) (fun q44 => ?_)
                · have hf := ob_pos q44 hf
                  refine g_iload (n := 253) d_L_law_251 rfl 1 rfl ?_
                  refine g_if_ne (n := 256) (tgt := 268) d_L_law_253 rfl (by decide) (fun q45 => ?_) (fun q45 => ?_)
                  · have hf := ob_neg q45 hf
                    refine g_goto (n := 773) d_L_law_268 (by decide) ?_
                    refine g_iinc (n := 776) (v := (x4 + 5)) (ls' := [(4, .int (x4 + 5)), (6, .int r40.1), (5, .int r38.1), (0, .ref 99), (1, .ref 0), (2, .ref 18), (3, .ref 28)]) d_L_law_773 rfl 6 rfl rfl (am_ltb rfl) rfl ?_
                    refine g_goto (n := 23) d_L_law_776 (by decide) ?_
                    refine g_ls [3, 4, 5, 6, 0] rfl ?_
                    exact ih (nc + 1) (ns + 6) (r38.2.2.1, g.2.1, g.2.2.1, r38.2.2.2.1, r38.2.2.2.2.1, g.2.2.2.2.2.1, g.2.2.2.2.2.2.1, g.2.2.2.2.2.2.2.1, g.2.2.2.2.2.2.2.2.1, g.2.2.2.2.2.2.2.2.2) li su r38.2.2.2.2.2.1 r38.2.2.2.2.2.2.1 r38.2.2.2.2.2.2.2.1 ctb lcb adb fx us r38.2.2.2.2.2.2.2.2.1 pt r38.2.2.2.2.2.2.2.2.2 br rw (w.1, r40.2.1, w.2.2.1, w.2.2.2.1, r40.2.2.1, w.2.2.2.2.2.1, w.2.2.2.2.2.2.1, w.2.2.2.2.2.2.2.1, r40.2.2.2.1) r40.2.2.2.2.1 sp mp mf ml r40.2.2.2.2.2 nm mu ch wy nx r38.2.1 (x4 + 5) _ (Nat.le_trans (by omega : nc + 1 + fuel ≤ nc + (fuel + 1)) hq) (Nat.le_trans (by omega : ns + 6 + 6 * fuel ≤ ns + 6 * (fuel + 1)) hq2) hf _ rfl
                  · have hf := ob_pos q45 hf
                    refine g_aload_n (n := 257) d_L_law_256 rfl 5 rfl rfl ?_
                    refine g_iconst (n := 258) (v := 0) d_L_law_257 rfl (by decide) ?_
                    refine g_lald (n := 259) (q0 := 28) d_L_law_258 rfl rfl (am_inl (by decide)) ?_
                    refine g_iload (n := 261) d_L_law_259 rfl 0 rfl ?_
                    refine g_i2l (n := 262) d_L_law_261 rfl ?_
                    refine g_lcmp (n := 263) d_L_law_262 rfl ?_
                    refine g_if_eq (n := 266) (tgt := 268) d_L_law_263 rfl (by decide) (fun q46 => ?_) (fun q46 => ?_)
                    · have hf := ob_pos q46 hf
                      refine g_goto (n := 773) d_L_law_268 (by decide) ?_
                      refine g_iinc (n := 776) (v := (x4 + 5)) (ls' := [(4, .int (x4 + 5)), (6, .int r40.1), (5, .int r38.1), (0, .ref 99), (1, .ref 0), (2, .ref 18), (3, .ref 28)]) d_L_law_773 rfl 6 rfl rfl (am_ltb rfl) rfl ?_
                      refine g_goto (n := 23) d_L_law_776 (by decide) ?_
                      refine g_ls [3, 4, 5, 6, 0] rfl ?_
                      exact ih (nc + 1) (ns + 6) (r38.2.2.1, g.2.1, g.2.2.1, r38.2.2.2.1, r38.2.2.2.2.1, g.2.2.2.2.2.1, g.2.2.2.2.2.2.1, g.2.2.2.2.2.2.2.1, g.2.2.2.2.2.2.2.2.1, g.2.2.2.2.2.2.2.2.2) li su r38.2.2.2.2.2.1 r38.2.2.2.2.2.2.1 r38.2.2.2.2.2.2.2.1 ctb lcb adb fx us r38.2.2.2.2.2.2.2.2.1 pt r38.2.2.2.2.2.2.2.2.2 br rw (w.1, r40.2.1, w.2.2.1, w.2.2.2.1, r40.2.2.1, w.2.2.2.2.2.1, w.2.2.2.2.2.2.1, w.2.2.2.2.2.2.2.1, r40.2.2.2.1) r40.2.2.2.2.1 sp mp mf ml r40.2.2.2.2.2 nm mu ch wy nx r38.2.1 (x4 + 5) _ (Nat.le_trans (by omega : nc + 1 + fuel ≤ nc + (fuel + 1)) hq) (Nat.le_trans (by omega : ns + 6 + 6 * fuel ≤ ns + 6 * (fuel + 1)) hq2) hf _ rfl
                    · have hf := ob_neg q46 hf
                      refine g_iconst (n := 267) (v := 0) d_L_law_266 rfl (by decide) ?_
                      cases hf
                      exact g_zret d_L_law_267 rfl am_z0 (Nat.le_trans (by omega : nc + 1 ≤ nc + (fuel + 1)) hq) (Nat.le_trans (by omega : ns + 6 ≤ ns + 6 * (fuel + 1)) hq2)
                · have hf := ob_neg q44 hf
                  refine g_iconst (n := 250) (v := 0) d_L_law_249 rfl (by decide) ?_
                  cases hf
                  exact g_zret d_L_law_250 rfl am_z0 (Nat.le_trans (by omega : nc + 1 ≤ nc + (fuel + 1)) hq) (Nat.le_trans (by omega : ns + 6 ≤ ns + 6 * (fuel + 1)) hq2)
              · have hf := ob_neg q37 hf
                by_cases q47 : ((xs9 x4.toNatClampNeg) &&& 15) = 5
                · have hf := ob_pos q47 hf
                  refine g_tabIn (n := 271) d_L_law_39 (by rw [q47]; decide) (by rw [q47]; decide) (by rw [q47]; rfl) (by decide) ?_
                  refine g_aload_n (n := 272) d_L_law_271 rfl 1 rfl rfl ?_
                  refine g_aload_n (n := 273) d_L_law_272 rfl 0 rfl rfl ?_
                  refine g_iload (n := 275) d_L_law_273 rfl 4 rfl ?_
                  refine g_iconst (n := 276) (v := 1) d_L_law_275 rfl (by decide) ?_
                  refine g_iadd (n := 277) d_L_law_276 rfl ?_
                  obtain ⟨b48, hf⟩ := ob_chk hf
                  refine g_sld (n := 278) d_L_law_277 rfl rfl (am_inl b48) (Nat.le_of_ble_eq_true rfl) ?_
                  obtain ⟨r49, h50, hf⟩ := ob_bind hf
                  refine c_Vl (n := 281) (st' := [.int r49.1]) [.int (xs9 (x4 + 1).toNatClampNeg)] [] d_L_law_278 rfl (s_V_close htr h50 rfl) tw_206 tw_207 tw_208 tw_1 tw_209 hd_V_close ⟨Nat.le_of_ble_eq_true rfl, Nat.le_of_ble_eq_true rfl⟩ (Nat.le_trans (by omega : nc ≤ nc + (fuel + 1)) hq) (Nat.le_trans (by omega : ns ≤ ns + 6 * (fuel + 1)) hq2) (ci := 6) rfl rfl rfl (Nat.le_of_ble_eq_true rfl) rfl rfl ?_
                  refine g_aload_n (n := 282) d_L_law_281 rfl 2 rfl rfl ?_
                  refine g_aload_n (n := 283) d_L_law_282 rfl 0 rfl rfl ?_
                  refine g_iload (n := 285) d_L_law_283 rfl 4 rfl ?_
                  refine g_iconst (n := 286) (v := 1) d_L_law_285 rfl (by decide) ?_
                  refine g_iadd (n := 287) d_L_law_286 rfl ?_
                  obtain ⟨b51, hf⟩ := ob_chk hf
                  refine g_sld (n := 288) d_L_law_287 rfl rfl (am_inl b51) (Nat.le_of_ble_eq_true rfl) ?_
                  obtain ⟨r52, h53, hf⟩ := ob_bind hf
                  refine c_Vl (n := 291) (st' := [.int r52.1, .int r49.1]) [.int (xs9 (x4 + 1).toNatClampNeg)] [.int r49.1] d_L_law_288 rfl (t_M_close htr h53 rfl) tw_1073 tw_1074 tw_1075 tw_8 tw_1076 hd_M_close ⟨Nat.le_of_ble_eq_true rfl, Nat.le_of_ble_eq_true rfl⟩ (Nat.le_trans (by omega : nc ≤ nc + (fuel + 1)) hq) (Nat.le_trans (by omega : ns ≤ ns + 6 * (fuel + 1)) hq2) (ci := 7) rfl rfl rfl (Nat.le_of_ble_eq_true rfl) rfl rfl ?_
                  refine g_icmp_eq (n := 294) (tgt := 773) d_L_law_291 rfl (by decide) (fun q54 => ?_) (fun q54 => ?_)
                  · have hf := ob_pos q54 hf
                    refine g_iinc (n := 776) (v := (x4 + 5)) (ls' := [(4, .int (x4 + 5)), (0, .ref 99), (1, .ref 0), (2, .ref 18), (3, .ref 28)]) d_L_law_773 rfl 4 rfl rfl (am_ltb rfl) rfl ?_
                    refine g_goto (n := 23) d_L_law_776 (by decide) ?_
                    refine g_ls [1, 2, 3, 4, 0] rfl ?_
                    exact ih nc ns (g.1, g.2.1, g.2.2.1, r49.2, g.2.2.2.2.1, g.2.2.2.2.2.1, g.2.2.2.2.2.2.1, g.2.2.2.2.2.2.2.1, g.2.2.2.2.2.2.2.2.1, g.2.2.2.2.2.2.2.2.2) li su ct lc ad ctb lcb adb fx us ln pt tx br rw (w.1, w.2.1, w.2.2.1, w.2.2.2.1, w.2.2.2.2.1, w.2.2.2.2.2.1, w.2.2.2.2.2.2.1, w.2.2.2.2.2.2.2.1, r52.2.1) r52.2.2 sp mp mf ml ps nm mu ch wy nx ou (x4 + 5) _ (Nat.le_trans (by omega : nc + fuel ≤ nc + (fuel + 1)) hq) (Nat.le_trans (by omega : ns + 6 * fuel ≤ ns + 6 * (fuel + 1)) hq2) hf _ rfl
                  · have hf := ob_neg q54 hf
                    refine g_iconst (n := 295) (v := 0) d_L_law_294 rfl (by decide) ?_
                    cases hf
                    exact g_zret d_L_law_295 rfl am_z0 (Nat.le_trans (by omega : nc ≤ nc + (fuel + 1)) hq) (Nat.le_trans (by omega : ns ≤ ns + 6 * (fuel + 1)) hq2)
                · have hf := ob_neg q47 hf
                  by_cases q55 : ((xs9 x4.toNatClampNeg) &&& 15) = 6
                  · have hf := ob_pos q55 hf
                    refine g_tabIn (n := 296) d_L_law_39 (by rw [q55]; decide) (by rw [q55]; decide) (by rw [q55]; rfl) (by decide) ?_
                    refine g_aload_n (n := 297) d_L_law_296 rfl 1 rfl rfl ?_
                    refine g_aload_n (n := 298) d_L_law_297 rfl 0 rfl rfl ?_
                    refine g_iload (n := 300) d_L_law_298 rfl 4 rfl ?_
                    refine g_iconst (n := 301) (v := 1) d_L_law_300 rfl (by decide) ?_
                    refine g_iadd (n := 302) d_L_law_301 rfl ?_
                    obtain ⟨b56, hf⟩ := ob_chk hf
                    refine g_sld (n := 303) d_L_law_302 rfl rfl (am_inl b56) (Nat.le_of_ble_eq_true rfl) ?_
                    refine g_aload_n (n := 304) d_L_law_303 rfl 0 rfl rfl ?_
                    refine g_iload (n := 306) d_L_law_304 rfl 4 rfl ?_
                    refine g_iconst (n := 307) (v := 2) d_L_law_306 rfl (by decide) ?_
                    refine g_iadd (n := 308) d_L_law_307 rfl ?_
                    obtain ⟨b57, hf⟩ := ob_chk hf
                    refine g_sld (n := 309) d_L_law_308 rfl rfl (am_inl b57) (Nat.le_of_ble_eq_true rfl) ?_
                    obtain ⟨r58, h59, hf⟩ := ob_bind hf
                    refine c_Vl (n := 312) (st' := [.int r58.1]) [.int (xs9 (x4 + 1).toNatClampNeg), .int (xs9 (x4 + 2).toNatClampNeg)] [] d_L_law_309 rfl (s_V_seek htr h59 rfl) tw_218 tw_219 tw_220 tw_1 tw_221 hd_V_seek ⟨Nat.le_of_ble_eq_true rfl, Nat.le_of_ble_eq_true rfl⟩ (Nat.le_trans (by omega : nc ≤ nc + (fuel + 1)) hq) (Nat.le_trans (by omega : ns ≤ ns + 6 * (fuel + 1)) hq2) (ci := 6) rfl rfl rfl (Nat.le_of_ble_eq_true rfl) rfl rfl ?_
                    refine g_aload_n (n := 313) d_L_law_312 rfl 2 rfl rfl ?_
                    refine g_aload_n (n := 314) d_L_law_313 rfl 0 rfl rfl ?_
                    refine g_iload (n := 316) d_L_law_314 rfl 4 rfl ?_
                    refine g_iconst (n := 317) (v := 1) d_L_law_316 rfl (by decide) ?_
                    refine g_iadd (n := 318) d_L_law_317 rfl ?_
                    obtain ⟨b60, hf⟩ := ob_chk hf
                    refine g_sld (n := 319) d_L_law_318 rfl rfl (am_inl b60) (Nat.le_of_ble_eq_true rfl) ?_
                    refine g_aload_n (n := 320) d_L_law_319 rfl 0 rfl rfl ?_
                    refine g_iload (n := 322) d_L_law_320 rfl 4 rfl ?_
                    refine g_iconst (n := 323) (v := 2) d_L_law_322 rfl (by decide) ?_
                    refine g_iadd (n := 324) d_L_law_323 rfl ?_
                    obtain ⟨b61, hf⟩ := ob_chk hf
                    refine g_sld (n := 325) d_L_law_324 rfl rfl (am_inl b61) (Nat.le_of_ble_eq_true rfl) ?_
                    obtain ⟨r62, h63, hf⟩ := ob_bind hf
                    refine c_Vl (n := 328) (st' := [.int r62.1, .int r58.1]) [.int (xs9 (x4 + 1).toNatClampNeg), .int (xs9 (x4 + 2).toNatClampNeg)] [.int r58.1] d_L_law_325 rfl (t_M_seek htr h63 rfl) tw_1081 tw_1082 tw_1083 tw_8 tw_1084 hd_M_seek ⟨Nat.le_of_ble_eq_true rfl, Nat.le_of_ble_eq_true rfl⟩ (Nat.le_trans (by omega : nc ≤ nc + (fuel + 1)) hq) (Nat.le_trans (by omega : ns ≤ ns + 6 * (fuel + 1)) hq2) (ci := 7) rfl rfl rfl (Nat.le_of_ble_eq_true rfl) rfl rfl ?_
                    refine g_icmp_eq (n := 331) (tgt := 773) d_L_law_328 rfl (by decide) (fun q64 => ?_) (fun q64 => ?_)
                    · have hf := ob_pos q64 hf
                      refine g_iinc (n := 776) (v := (x4 + 5)) (ls' := [(4, .int (x4 + 5)), (0, .ref 99), (1, .ref 0), (2, .ref 18), (3, .ref 28)]) d_L_law_773 rfl 4 rfl rfl (am_ltb rfl) rfl ?_
                      refine g_goto (n := 23) d_L_law_776 (by decide) ?_
                      refine g_ls [1, 2, 3, 4, 0] rfl ?_
                      exact ih nc ns (g.1, g.2.1, g.2.2.1, g.2.2.2.1, r58.2, g.2.2.2.2.2.1, g.2.2.2.2.2.2.1, g.2.2.2.2.2.2.2.1, g.2.2.2.2.2.2.2.2.1, g.2.2.2.2.2.2.2.2.2) li su ct lc ad ctb lcb adb fx us ln pt tx br rw w r62.2.1 sp mp mf ml r62.2.2 nm mu ch wy nx ou (x4 + 5) _ (Nat.le_trans (by omega : nc + fuel ≤ nc + (fuel + 1)) hq) (Nat.le_trans (by omega : ns + 6 * fuel ≤ ns + 6 * (fuel + 1)) hq2) hf _ rfl
                    · have hf := ob_neg q64 hf
                      refine g_iconst (n := 332) (v := 0) d_L_law_331 rfl (by decide) ?_
                      cases hf
                      exact g_zret d_L_law_332 rfl am_z0 (Nat.le_trans (by omega : nc ≤ nc + (fuel + 1)) hq) (Nat.le_trans (by omega : ns ≤ ns + 6 * (fuel + 1)) hq2)
                  · have hf := ob_neg q55 hf
                    by_cases q65 : ((xs9 x4.toNatClampNeg) &&& 15) = 7
                    · have hf := ob_pos q65 hf
                      refine g_tabIn (n := 333) d_L_law_39 (by rw [q65]; decide) (by rw [q65]; decide) (by rw [q65]; rfl) (by decide) ?_
                      refine g_aload_n (n := 334) d_L_law_333 rfl 1 rfl rfl ?_
                      refine g_aload_n (n := 335) d_L_law_334 rfl 0 rfl rfl ?_
                      refine g_iload (n := 337) d_L_law_335 rfl 4 rfl ?_
                      refine g_iconst (n := 338) (v := 1) d_L_law_337 rfl (by decide) ?_
                      refine g_iadd (n := 339) d_L_law_338 rfl ?_
                      obtain ⟨b66, hf⟩ := ob_chk hf
                      refine g_sld (n := 340) d_L_law_339 rfl rfl (am_inl b66) (Nat.le_of_ble_eq_true rfl) ?_
                      refine g_aload_n (n := 341) d_L_law_340 rfl 0 rfl rfl ?_
                      refine g_iload (n := 343) d_L_law_341 rfl 4 rfl ?_
                      refine g_iconst (n := 344) (v := 2) d_L_law_343 rfl (by decide) ?_
                      refine g_iadd (n := 345) d_L_law_344 rfl ?_
                      obtain ⟨b67, hf⟩ := ob_chk hf
                      refine g_sld (n := 346) d_L_law_345 rfl rfl (am_inl b67) (Nat.le_of_ble_eq_true rfl) ?_
                      refine g_aload_n (n := 347) d_L_law_346 rfl 3 rfl rfl ?_
                      obtain ⟨r68, h69, hf⟩ := ob_bind hf
                      refine c_SWl (n := 350) (st' := [.int r68.1]) [.ref 0, .int (xs9 (x4 + 1).toNatClampNeg), .int (xs9 (x4 + 2).toNatClampNeg), .ref 28] [] d_L_law_347 rfl (s_H_read htr h69 rfl) tw_686 tw_687 tw_0 tw_688 hd_L_read ⟨Nat.le_of_ble_eq_true rfl, Nat.le_of_ble_eq_true rfl⟩ (Nat.le_trans (by omega : nc + 1 ≤ nc + (fuel + 1)) hq) (Nat.le_trans (by omega : ns + 6 ≤ ns + 6 * (fuel + 1)) hq2) rfl (Nat.le_of_ble_eq_true rfl) rfl rfl ?_
                      refine g_istore (n := 352) (ls' := [(5, .int r68.1), (0, .ref 99), (1, .ref 0), (2, .ref 18), (3, .ref 28), (4, .int x4)]) d_L_law_350 rfl (am_ltb rfl) rfl ?_
                      refine g_aload_n (n := 353) d_L_law_352 rfl 3 rfl rfl ?_
                      refine g_aload_n (n := 354) d_L_law_353 rfl 1 rfl rfl ?_
                      refine g_iload (n := 356) d_L_law_354 rfl 5 rfl ?_
                      refine g_iconst (n := 357) (v := 1) d_L_law_356 rfl (by decide) ?_
                      refine g_iadd (n := 358) d_L_law_357 rfl ?_
                      obtain ⟨b70, hf⟩ := ob_chk hf
                      refine g_sld (n := 359) d_L_law_358 rfl rfl (am_inl b70) (Nat.le_of_ble_eq_true rfl) ?_
                      refine g_aload_n (n := 360) d_L_law_359 rfl 1 rfl rfl ?_
                      refine g_iload (n := 362) d_L_law_360 rfl 5 rfl ?_
                      refine g_iconst (n := 363) (v := 2) d_L_law_362 rfl (by decide) ?_
                      refine g_iadd (n := 364) d_L_law_363 rfl ?_
                      obtain ⟨b71, hf⟩ := ob_chk hf
                      refine g_sld (n := 365) d_L_law_364 rfl rfl (am_inl b71) (Nat.le_of_ble_eq_true rfl) ?_
                      obtain ⟨r72, h73, hf⟩ := ob_bind hf
                      refine c_Vl (n := 368) (st' := [.long r72.1]) [.int (xs9 (x4 + 1).toNatClampNeg), .int (xs9 (x4 + 2).toNatClampNeg)] [] d_L_law_365 rfl (t_M_read htr h73 rfl) tw_1089 tw_1090 tw_1091 tw_8 tw_1092 hd_M_read ⟨Nat.le_of_ble_eq_true rfl, Nat.le_of_ble_eq_true rfl⟩ (Nat.le_trans (by omega : nc + 1 ≤ nc + (fuel + 1)) hq) (Nat.le_trans (by omega : ns + 6 ≤ ns + 6 * (fuel + 1)) hq2) (ci := 7) rfl rfl rfl (Nat.le_of_ble_eq_true rfl) rfl rfl ?_
                      refine g_lstore (n := 370) (ls' := [(6, .long r72.1), (5, .int r68.1), (0, .ref 99), (1, .ref 0), (2, .ref 18), (3, .ref 28), (4, .int x4)]) d_L_law_368 rfl (am_ltb rfl) rfl ?_
                      refine g_aload_n (n := 371) d_L_law_370 rfl 4 rfl rfl ?_
                      obtain ⟨r74, h75, hf⟩ := ob_bind hf
                      refine c_Vl (n := 374) (st' := [.int r74]) [] [] d_L_law_371 rfl (t_M_thrown htr h75 rfl) tw_926 tw_927 tw_928 tw_8 tw_929 hd_M_thrown ⟨Nat.le_of_ble_eq_true rfl, Nat.le_of_ble_eq_true rfl⟩ (Nat.le_trans (by omega : nc + 1 ≤ nc + (fuel + 1)) hq) (Nat.le_trans (by omega : ns + 6 ≤ ns + 6 * (fuel + 1)) hq2) (ci := 7) rfl rfl rfl (Nat.le_of_ble_eq_true rfl) rfl rfl ?_
                      refine g_iload (n := 376) d_L_law_374 rfl 1 rfl ?_
                      refine g_icmp_eq (n := 379) (tgt := 381) d_L_law_376 rfl (by decide) (fun q76 => ?_) (fun q76 => ?_)
                      · have hf := ob_pos q76 hf
                        refine g_iload (n := 383) d_L_law_381 rfl 1 rfl ?_
                        refine g_if_ne (n := 386) (tgt := 397) d_L_law_383 rfl (by decide) (fun q77 => ?_) (fun q77 => ?_)
                        · have hf := ob_neg q77 hf
                          refine g_goto (n := 773) d_L_law_397 (by decide) ?_
                          refine g_iinc (n := 776) (v := (x4 + 5)) (ls' := [(4, .int (x4 + 5)), (6, .long r72.1), (5, .int r68.1), (0, .ref 99), (1, .ref 0), (2, .ref 18), (3, .ref 28)]) d_L_law_773 rfl 6 rfl rfl (am_ltb rfl) rfl ?_
                          refine g_goto (n := 23) d_L_law_776 (by decide) ?_
                          refine g_ls [3, 4, 5, 6, 0] rfl ?_
                          exact ih (nc + 1) (ns + 6) (g.1, g.2.1, g.2.2.1, g.2.2.2.1, r68.2.2, g.2.2.2.2.2.1, g.2.2.2.2.2.2.1, g.2.2.2.2.2.2.2.1, g.2.2.2.2.2.2.2.2.1, g.2.2.2.2.2.2.2.2.2) li su ct lc ad ctb lcb adb fx us ln pt tx br rw (w.1, r72.2.1, w.2.2.1, w.2.2.2.1, w.2.2.2.2.1, w.2.2.2.2.2.1, w.2.2.2.2.2.2.1, w.2.2.2.2.2.2.2.1, w.2.2.2.2.2.2.2.2) r72.2.2.1 sp mp mf ml r72.2.2.2 nm mu ch wy nx r68.2.1 (x4 + 5) _ (Nat.le_trans (by omega : nc + 1 + fuel ≤ nc + (fuel + 1)) hq) (Nat.le_trans (by omega : ns + 6 + 6 * fuel ≤ ns + 6 * (fuel + 1)) hq2) hf _ rfl
                        · have hf := ob_pos q77 hf
                          refine g_aload_n (n := 387) d_L_law_386 rfl 5 rfl rfl ?_
                          refine g_iconst (n := 388) (v := 0) d_L_law_387 rfl (by decide) ?_
                          refine g_lald (n := 389) (q0 := 28) d_L_law_388 rfl rfl (am_inl (by decide)) ?_
                          refine g_lload (n := 391) d_L_law_389 rfl 0 rfl ?_
                          refine g_lcmp (n := 392) d_L_law_391 rfl ?_
                          refine g_if_eq (n := 395) (tgt := 397) d_L_law_392 rfl (by decide) (fun q78 => ?_) (fun q78 => ?_)
                          · have hf := ob_pos q78 hf
                            refine g_goto (n := 773) d_L_law_397 (by decide) ?_
                            refine g_iinc (n := 776) (v := (x4 + 5)) (ls' := [(4, .int (x4 + 5)), (6, .long r72.1), (5, .int r68.1), (0, .ref 99), (1, .ref 0), (2, .ref 18), (3, .ref 28)]) d_L_law_773 rfl 6 rfl rfl (am_ltb rfl) rfl ?_
                            refine g_goto (n := 23) d_L_law_776 (by decide) ?_
                            refine g_ls [3, 4, 5, 6, 0] rfl ?_
                            exact ih (nc + 1) (ns + 6) (g.1, g.2.1, g.2.2.1, g.2.2.2.1, r68.2.2, g.2.2.2.2.2.1, g.2.2.2.2.2.2.1, g.2.2.2.2.2.2.2.1, g.2.2.2.2.2.2.2.2.1, g.2.2.2.2.2.2.2.2.2) li su ct lc ad ctb lcb adb fx us ln pt tx br rw (w.1, r72.2.1, w.2.2.1, w.2.2.2.1, w.2.2.2.2.1, w.2.2.2.2.2.1, w.2.2.2.2.2.2.1, w.2.2.2.2.2.2.2.1, w.2.2.2.2.2.2.2.2) r72.2.2.1 sp mp mf ml r72.2.2.2 nm mu ch wy nx r68.2.1 (x4 + 5) _ (Nat.le_trans (by omega : nc + 1 + fuel ≤ nc + (fuel + 1)) hq) (Nat.le_trans (by omega : ns + 6 + 6 * fuel ≤ ns + 6 * (fuel + 1)) hq2) hf _ rfl
                          · have hf := ob_neg q78 hf
                            refine g_iconst (n := 396) (v := 0) d_L_law_395 rfl (by decide) ?_
                            cases hf
                            exact g_zret d_L_law_396 rfl am_z0 (Nat.le_trans (by omega : nc + 1 ≤ nc + (fuel + 1)) hq) (Nat.le_trans (by omega : ns + 6 ≤ ns + 6 * (fuel + 1)) hq2)
                      · have hf := ob_neg q76 hf
                        refine g_iconst (n := 380) (v := 0) d_L_law_379 rfl (by decide) ?_
                        cases hf
                        exact g_zret d_L_law_380 rfl am_z0 (Nat.le_trans (by omega : nc + 1 ≤ nc + (fuel + 1)) hq) (Nat.le_trans (by omega : ns + 6 ≤ ns + 6 * (fuel + 1)) hq2)
                    · have hf := ob_neg q65 hf
                      by_cases q79 : ((xs9 x4.toNatClampNeg) &&& 15) = 8
                      · have hf := ob_pos q79 hf
                        refine g_tabIn (n := 400) d_L_law_39 (by rw [q79]; decide) (by rw [q79]; decide) (by rw [q79]; rfl) (by decide) ?_
                        refine g_aload_n (n := 401) d_L_law_400 rfl 1 rfl rfl ?_
                        refine g_aload_n (n := 402) d_L_law_401 rfl 0 rfl rfl ?_
                        refine g_iload (n := 404) d_L_law_402 rfl 4 rfl ?_
                        refine g_iconst (n := 405) (v := 1) d_L_law_404 rfl (by decide) ?_
                        refine g_iadd (n := 406) d_L_law_405 rfl ?_
                        obtain ⟨b80, hf⟩ := ob_chk hf
                        refine g_sld (n := 407) d_L_law_406 rfl rfl (am_inl b80) (Nat.le_of_ble_eq_true rfl) ?_
                        refine g_aload_n (n := 408) d_L_law_407 rfl 0 rfl rfl ?_
                        refine g_iload (n := 410) d_L_law_408 rfl 4 rfl ?_
                        refine g_iconst (n := 411) (v := 2) d_L_law_410 rfl (by decide) ?_
                        refine g_iadd (n := 412) d_L_law_411 rfl ?_
                        obtain ⟨b81, hf⟩ := ob_chk hf
                        refine g_sld (n := 413) d_L_law_412 rfl rfl (am_inl b81) (Nat.le_of_ble_eq_true rfl) ?_
                        refine g_i2l (n := 414) d_L_law_413 rfl ?_
                        refine g_bipush (n := 416) (v := 32) d_L_law_414 rfl (by decide) ?_
                        refine g_lshl (n := 417) d_L_law_416 rfl ?_
                        refine g_aload_n (n := 418) d_L_law_417 rfl 0 rfl rfl ?_
                        refine g_iload (n := 420) d_L_law_418 rfl 4 rfl ?_
                        refine g_iconst (n := 421) (v := 3) d_L_law_420 rfl (by decide) ?_
                        refine g_iadd (n := 422) d_L_law_421 rfl ?_
                        obtain ⟨b82, hf⟩ := ob_chk hf
                        refine g_sld (n := 423) d_L_law_422 rfl rfl (am_inl b82) (Nat.le_of_ble_eq_true rfl) ?_
                        refine g_i2l (n := 424) d_L_law_423 rfl ?_
                        refine g_ldc2 (n := 427) (v := 4294967295) d_L_law_424 rfl (List.mem_cons_of_mem _ tw_1168) ?_
                        refine g_land (n := 428) d_L_law_427 rfl ?_
                        refine g_lor (n := 429) d_L_law_428 rfl ?_
                        refine g_aload_n (n := 430) d_L_law_429 rfl 0 rfl rfl ?_
                        refine g_iload (n := 432) d_L_law_430 rfl 4 rfl ?_
                        refine g_iconst (n := 433) (v := 4) d_L_law_432 rfl (by decide) ?_
                        refine g_iadd (n := 434) d_L_law_433 rfl ?_
                        obtain ⟨b83, hf⟩ := ob_chk hf
                        refine g_sld (n := 435) d_L_law_434 rfl rfl (am_inl b83) (Nat.le_of_ble_eq_true rfl) ?_
                        refine g_aload_n (n := 436) d_L_law_435 rfl 3 rfl rfl ?_
                        obtain ⟨r84, h85, hf⟩ := ob_bind hf
                        refine c_SWl (n := 439) (st' := [.int r84.1]) [.ref 0, .int (xs9 (x4 + 1).toNatClampNeg), .long ((((xs9 (x4 + 2).toNatClampNeg).toInt64) <<< ((32 : Int32).toInt64 &&& 63)) ||| (((xs9 (x4 + 3).toNatClampNeg).toInt64) &&& 4294967295)), .int (xs9 (x4 + 4).toNatClampNeg), .ref 28] [] d_L_law_436 rfl (s_H_write htr h85 rfl) tw_706 tw_707 tw_0 tw_708 hd_L_write ⟨Nat.le_of_ble_eq_true rfl, Nat.le_of_ble_eq_true rfl⟩ (Nat.le_trans (by omega : nc + 1 ≤ nc + (fuel + 1)) hq) (Nat.le_trans (by omega : ns + 6 ≤ ns + 6 * (fuel + 1)) hq2) rfl (Nat.le_of_ble_eq_true rfl) rfl rfl ?_
                        refine g_istore (n := 441) (ls' := [(5, .int r84.1), (0, .ref 99), (1, .ref 0), (2, .ref 18), (3, .ref 28), (4, .int x4)]) d_L_law_439 rfl (am_ltb rfl) rfl ?_
                        refine g_aload_n (n := 442) d_L_law_441 rfl 3 rfl rfl ?_
                        refine g_aload_n (n := 443) d_L_law_442 rfl 1 rfl rfl ?_
                        refine g_iload (n := 445) d_L_law_443 rfl 5 rfl ?_
                        refine g_iconst (n := 446) (v := 1) d_L_law_445 rfl (by decide) ?_
                        refine g_iadd (n := 447) d_L_law_446 rfl ?_
                        obtain ⟨b86, hf⟩ := ob_chk hf
                        refine g_sld (n := 448) d_L_law_447 rfl rfl (am_inl b86) (Nat.le_of_ble_eq_true rfl) ?_
                        refine g_aload_n (n := 449) d_L_law_448 rfl 1 rfl rfl ?_
                        refine g_iload (n := 451) d_L_law_449 rfl 5 rfl ?_
                        refine g_iconst (n := 452) (v := 2) d_L_law_451 rfl (by decide) ?_
                        refine g_iadd (n := 453) d_L_law_452 rfl ?_
                        obtain ⟨b87, hf⟩ := ob_chk hf
                        refine g_sld (n := 454) d_L_law_453 rfl rfl (am_inl b87) (Nat.le_of_ble_eq_true rfl) ?_
                        refine g_i2l (n := 455) d_L_law_454 rfl ?_
                        refine g_bipush (n := 457) (v := 32) d_L_law_455 rfl (by decide) ?_
                        refine g_lshl (n := 458) d_L_law_457 rfl ?_
                        refine g_aload_n (n := 459) d_L_law_458 rfl 1 rfl rfl ?_
                        refine g_iload (n := 461) d_L_law_459 rfl 5 rfl ?_
                        refine g_iconst (n := 462) (v := 3) d_L_law_461 rfl (by decide) ?_
                        refine g_iadd (n := 463) d_L_law_462 rfl ?_
                        obtain ⟨b88, hf⟩ := ob_chk hf
                        refine g_sld (n := 464) d_L_law_463 rfl rfl (am_inl b88) (Nat.le_of_ble_eq_true rfl) ?_
                        refine g_i2l (n := 465) d_L_law_464 rfl ?_
                        refine g_ldc2 (n := 468) (v := 4294967295) d_L_law_465 rfl (List.mem_cons_of_mem _ tw_1168) ?_
                        refine g_land (n := 469) d_L_law_468 rfl ?_
                        refine g_lor (n := 470) d_L_law_469 rfl ?_
                        refine g_aload_n (n := 471) d_L_law_470 rfl 1 rfl rfl ?_
                        refine g_iload (n := 473) d_L_law_471 rfl 5 rfl ?_
                        refine g_iconst (n := 474) (v := 4) d_L_law_473 rfl (by decide) ?_
                        refine g_iadd (n := 475) d_L_law_474 rfl ?_
                        obtain ⟨b89, hf⟩ := ob_chk hf
                        refine g_sld (n := 476) d_L_law_475 rfl rfl (am_inl b89) (Nat.le_of_ble_eq_true rfl) ?_
                        obtain ⟨r90, h91, hf⟩ := ob_bind hf
                        refine c_Vl (n := 479) (st' := [.int r90.1]) [.int (xs9 (x4 + 1).toNatClampNeg), .long ((((xs9 (x4 + 2).toNatClampNeg).toInt64) <<< ((32 : Int32).toInt64 &&& 63)) ||| (((xs9 (x4 + 3).toNatClampNeg).toInt64) &&& 4294967295)), .int (xs9 (x4 + 4).toNatClampNeg)] [] d_L_law_476 rfl (t_M_write htr h91 rfl) tw_1098 tw_1099 tw_1100 tw_8 tw_1101 hd_M_write ⟨Nat.le_of_ble_eq_true rfl, Nat.le_of_ble_eq_true rfl⟩ (Nat.le_trans (by omega : nc + 1 ≤ nc + (fuel + 1)) hq) (Nat.le_trans (by omega : ns + 6 ≤ ns + 6 * (fuel + 1)) hq2) (ci := 7) rfl rfl rfl (Nat.le_of_ble_eq_true rfl) rfl rfl ?_
                        refine g_istore (n := 481) (ls' := [(6, .int r90.1), (5, .int r84.1), (0, .ref 99), (1, .ref 0), (2, .ref 18), (3, .ref 28), (4, .int x4)]) d_L_law_479 rfl (am_ltb rfl) rfl ?_
                        refine g_aload_n (n := 482) d_L_law_481 rfl 4 rfl rfl ?_
                        obtain ⟨r92, h93, hf⟩ := ob_bind hf
                        refine c_Vl (n := 485) (st' := [.int r92]) [] [] d_L_law_482 rfl (t_M_thrown htr h93 rfl) tw_926 tw_927 tw_928 tw_8 tw_929 hd_M_thrown ⟨Nat.le_of_ble_eq_true rfl, Nat.le_of_ble_eq_true rfl⟩ (Nat.le_trans (by omega : nc + 1 ≤ nc + (fuel + 1)) hq) (Nat.le_trans (by omega : ns + 6 ≤ ns + 6 * (fuel + 1)) hq2) (ci := 7) rfl rfl rfl (Nat.le_of_ble_eq_true rfl) rfl rfl ?_
                        refine g_iload (n := 487) d_L_law_485 rfl 1 rfl ?_
                        refine g_icmp_eq (n := 490) (tgt := 492) d_L_law_487 rfl (by decide) (fun q94 => ?_) (fun q94 => ?_)
                        · have hf := ob_pos q94 hf
                          refine g_iload (n := 494) d_L_law_492 rfl 1 rfl ?_
                          refine g_if_ne (n := 497) (tgt := 509) d_L_law_494 rfl (by decide) (fun q95 => ?_) (fun q95 => ?_)
                          · have hf := ob_neg q95 hf
                            refine g_goto (n := 773) d_L_law_509 (by decide) ?_
                            refine g_iinc (n := 776) (v := (x4 + 5)) (ls' := [(4, .int (x4 + 5)), (6, .int r90.1), (5, .int r84.1), (0, .ref 99), (1, .ref 0), (2, .ref 18), (3, .ref 28)]) d_L_law_773 rfl 6 rfl rfl (am_ltb rfl) rfl ?_
                            refine g_goto (n := 23) d_L_law_776 (by decide) ?_
                            refine g_ls [3, 4, 5, 6, 0] rfl ?_
                            exact ih (nc + 1) (ns + 6) r84.2.2.1 li su ct lc ad ctb lcb adb fx us ln pt tx br r84.2.2.2 r90.2.1 r90.2.2.1 sp mp mf ml r90.2.2.2 nm mu ch wy nx r84.2.1 (x4 + 5) _ (Nat.le_trans (by omega : nc + 1 + fuel ≤ nc + (fuel + 1)) hq) (Nat.le_trans (by omega : ns + 6 + 6 * fuel ≤ ns + 6 * (fuel + 1)) hq2) hf _ rfl
                          · have hf := ob_pos q95 hf
                            refine g_aload_n (n := 498) d_L_law_497 rfl 5 rfl rfl ?_
                            refine g_iconst (n := 499) (v := 0) d_L_law_498 rfl (by decide) ?_
                            refine g_lald (n := 500) (q0 := 28) d_L_law_499 rfl rfl (am_inl (by decide)) ?_
                            refine g_iload (n := 502) d_L_law_500 rfl 0 rfl ?_
                            refine g_i2l (n := 503) d_L_law_502 rfl ?_
                            refine g_lcmp (n := 504) d_L_law_503 rfl ?_
                            refine g_if_eq (n := 507) (tgt := 509) d_L_law_504 rfl (by decide) (fun q96 => ?_) (fun q96 => ?_)
                            · have hf := ob_pos q96 hf
                              refine g_goto (n := 773) d_L_law_509 (by decide) ?_
                              refine g_iinc (n := 776) (v := (x4 + 5)) (ls' := [(4, .int (x4 + 5)), (6, .int r90.1), (5, .int r84.1), (0, .ref 99), (1, .ref 0), (2, .ref 18), (3, .ref 28)]) d_L_law_773 rfl 6 rfl rfl (am_ltb rfl) rfl ?_
                              refine g_goto (n := 23) d_L_law_776 (by decide) ?_
                              refine g_ls [3, 4, 5, 6, 0] rfl ?_
                              exact ih (nc + 1) (ns + 6) r84.2.2.1 li su ct lc ad ctb lcb adb fx us ln pt tx br r84.2.2.2 r90.2.1 r90.2.2.1 sp mp mf ml r90.2.2.2 nm mu ch wy nx r84.2.1 (x4 + 5) _ (Nat.le_trans (by omega : nc + 1 + fuel ≤ nc + (fuel + 1)) hq) (Nat.le_trans (by omega : ns + 6 + 6 * fuel ≤ ns + 6 * (fuel + 1)) hq2) hf _ rfl
                            · have hf := ob_neg q96 hf
                              refine g_iconst (n := 508) (v := 0) d_L_law_507 rfl (by decide) ?_
                              cases hf
                              exact g_zret d_L_law_508 rfl am_z0 (Nat.le_trans (by omega : nc + 1 ≤ nc + (fuel + 1)) hq) (Nat.le_trans (by omega : ns + 6 ≤ ns + 6 * (fuel + 1)) hq2)
                        · have hf := ob_neg q94 hf
                          refine g_iconst (n := 491) (v := 0) d_L_law_490 rfl (by decide) ?_
                          cases hf
                          exact g_zret d_L_law_491 rfl am_z0 (Nat.le_trans (by omega : nc + 1 ≤ nc + (fuel + 1)) hq) (Nat.le_trans (by omega : ns + 6 ≤ ns + 6 * (fuel + 1)) hq2)
                      · have hf := ob_neg q79 hf
                        by_cases q97 : ((xs9 x4.toNatClampNeg) &&& 15) = 9
                        · have hf := ob_pos q97 hf
                          refine g_tabIn (n := 512) d_L_law_39 (by rw [q97]; decide) (by rw [q97]; decide) (by rw [q97]; rfl) (by decide) ?_
                          refine g_aload_n (n := 513) d_L_law_512 rfl 1 rfl rfl ?_
                          refine g_aload_n (n := 514) d_L_law_513 rfl 0 rfl rfl ?_
                          refine g_iload (n := 516) d_L_law_514 rfl 4 rfl ?_
                          refine g_iconst (n := 517) (v := 1) d_L_law_516 rfl (by decide) ?_
                          refine g_iadd (n := 518) d_L_law_517 rfl ?_
                          obtain ⟨b98, hf⟩ := ob_chk hf
                          refine g_sld (n := 519) d_L_law_518 rfl rfl (am_inl b98) (Nat.le_of_ble_eq_true rfl) ?_
                          refine g_aload_n (n := 520) d_L_law_519 rfl 0 rfl rfl ?_
                          refine g_iload (n := 522) d_L_law_520 rfl 4 rfl ?_
                          refine g_iconst (n := 523) (v := 2) d_L_law_522 rfl (by decide) ?_
                          refine g_iadd (n := 524) d_L_law_523 rfl ?_
                          obtain ⟨b99, hf⟩ := ob_chk hf
                          refine g_sld (n := 525) d_L_law_524 rfl rfl (am_inl b99) (Nat.le_of_ble_eq_true rfl) ?_
                          refine g_aload_n (n := 526) d_L_law_525 rfl 3 rfl rfl ?_
                          obtain ⟨r100, h101, hf⟩ := ob_bind hf
                          refine c_SWl (n := 529) (st' := [.int r100.1]) [.ref 0, .int (xs9 (x4 + 1).toNatClampNeg), .int (xs9 (x4 + 2).toNatClampNeg), .ref 28] [] d_L_law_526 rfl (s_H_list htr h101 rfl) tw_732 tw_733 tw_0 tw_734 hd_L_list ⟨Nat.le_of_ble_eq_true rfl, Nat.le_of_ble_eq_true rfl⟩ (Nat.le_trans (by omega : nc + 1 ≤ nc + (fuel + 1)) hq) (Nat.le_trans (by omega : ns + 6 ≤ ns + 6 * (fuel + 1)) hq2) rfl (Nat.le_of_ble_eq_true rfl) rfl rfl ?_
                          refine g_istore (n := 531) (ls' := [(5, .int r100.1), (0, .ref 99), (1, .ref 0), (2, .ref 18), (3, .ref 28), (4, .int x4)]) d_L_law_529 rfl (am_ltb rfl) rfl ?_
                          refine g_aload_n (n := 532) d_L_law_531 rfl 3 rfl rfl ?_
                          refine g_aload_n (n := 533) d_L_law_532 rfl 1 rfl rfl ?_
                          refine g_iload (n := 535) d_L_law_533 rfl 5 rfl ?_
                          refine g_iconst (n := 536) (v := 1) d_L_law_535 rfl (by decide) ?_
                          refine g_iadd (n := 537) d_L_law_536 rfl ?_
                          obtain ⟨b102, hf⟩ := ob_chk hf
                          refine g_sld (n := 538) d_L_law_537 rfl rfl (am_inl b102) (Nat.le_of_ble_eq_true rfl) ?_
                          refine g_aload_n (n := 539) d_L_law_538 rfl 1 rfl rfl ?_
                          refine g_iload (n := 541) d_L_law_539 rfl 5 rfl ?_
                          refine g_iconst (n := 542) (v := 2) d_L_law_541 rfl (by decide) ?_
                          refine g_iadd (n := 543) d_L_law_542 rfl ?_
                          obtain ⟨b103, hf⟩ := ob_chk hf
                          refine g_sld (n := 544) d_L_law_543 rfl rfl (am_inl b103) (Nat.le_of_ble_eq_true rfl) ?_
                          obtain ⟨r104, h105, hf⟩ := ob_bind hf
                          refine c_Vl (n := 547) (st' := [.int r104.1]) [.int (xs9 (x4 + 1).toNatClampNeg), .int (xs9 (x4 + 2).toNatClampNeg)] [] d_L_law_544 rfl (t_M_list htr h105 rfl) tw_1111 tw_1112 tw_1113 tw_8 tw_1114 hd_M_list ⟨Nat.le_of_ble_eq_true rfl, Nat.le_of_ble_eq_true rfl⟩ (Nat.le_trans (by omega : nc + 1 ≤ nc + (fuel + 1)) hq) (Nat.le_trans (by omega : ns + 6 ≤ ns + 6 * (fuel + 1)) hq2) (ci := 7) rfl rfl rfl (Nat.le_of_ble_eq_true rfl) rfl rfl ?_
                          refine g_istore (n := 549) (ls' := [(6, .int r104.1), (5, .int r100.1), (0, .ref 99), (1, .ref 0), (2, .ref 18), (3, .ref 28), (4, .int x4)]) d_L_law_547 rfl (am_ltb rfl) rfl ?_
                          refine g_aload_n (n := 550) d_L_law_549 rfl 4 rfl rfl ?_
                          obtain ⟨r106, h107, hf⟩ := ob_bind hf
                          refine c_Vl (n := 553) (st' := [.int r106]) [] [] d_L_law_550 rfl (t_M_thrown htr h107 rfl) tw_926 tw_927 tw_928 tw_8 tw_929 hd_M_thrown ⟨Nat.le_of_ble_eq_true rfl, Nat.le_of_ble_eq_true rfl⟩ (Nat.le_trans (by omega : nc + 1 ≤ nc + (fuel + 1)) hq) (Nat.le_trans (by omega : ns + 6 ≤ ns + 6 * (fuel + 1)) hq2) (ci := 7) rfl rfl rfl (Nat.le_of_ble_eq_true rfl) rfl rfl ?_
                          refine g_iload (n := 555) d_L_law_553 rfl 1 rfl ?_
                          refine g_icmp_eq (n := 558) (tgt := 560) d_L_law_555 rfl (by decide) (fun q108 => ?_) (fun q108 => ?_)
                          · have hf := ob_pos q108 hf
                            refine g_iload (n := 562) d_L_law_560 rfl 1 rfl ?_
                            refine g_if_ne (n := 565) (tgt := 577) d_L_law_562 rfl (by decide) (fun q109 => ?_) (fun q109 => ?_)
                            · have hf := ob_neg q109 hf
                              refine g_goto (n := 773) d_L_law_577 (by decide) ?_
                              refine g_iinc (n := 776) (v := (x4 + 5)) (ls' := [(4, .int (x4 + 5)), (6, .int r104.1), (5, .int r100.1), (0, .ref 99), (1, .ref 0), (2, .ref 18), (3, .ref 28)]) d_L_law_773 rfl 6 rfl rfl (am_ltb rfl) rfl ?_
                              refine g_goto (n := 23) d_L_law_776 (by decide) ?_
                              refine g_ls [3, 4, 5, 6, 0] rfl ?_
                              exact ih (nc + 1) (ns + 6) g li su r100.2.2.1 r100.2.2.2.1 r100.2.2.2.2 ctb lcb adb fx us ln pt tx br rw (w.1, r104.2.1, w.2.2.1, w.2.2.2.1, w.2.2.2.2.1, w.2.2.2.2.2.1, w.2.2.2.2.2.2.1, w.2.2.2.2.2.2.2.1, w.2.2.2.2.2.2.2.2) r104.2.2 sp mp mf ml ps nm mu ch wy nx r100.2.1 (x4 + 5) _ (Nat.le_trans (by omega : nc + 1 + fuel ≤ nc + (fuel + 1)) hq) (Nat.le_trans (by omega : ns + 6 + 6 * fuel ≤ ns + 6 * (fuel + 1)) hq2) hf _ rfl
                            · have hf := ob_pos q109 hf
                              refine g_aload_n (n := 566) d_L_law_565 rfl 5 rfl rfl ?_
                              refine g_iconst (n := 567) (v := 0) d_L_law_566 rfl (by decide) ?_
                              refine g_lald (n := 568) (q0 := 28) d_L_law_567 rfl rfl (am_inl (by decide)) ?_
                              refine g_iload (n := 570) d_L_law_568 rfl 0 rfl ?_
                              refine g_i2l (n := 571) d_L_law_570 rfl ?_
                              refine g_lcmp (n := 572) d_L_law_571 rfl ?_
                              refine g_if_eq (n := 575) (tgt := 577) d_L_law_572 rfl (by decide) (fun q110 => ?_) (fun q110 => ?_)
                              · have hf := ob_pos q110 hf
                                refine g_goto (n := 773) d_L_law_577 (by decide) ?_
                                refine g_iinc (n := 776) (v := (x4 + 5)) (ls' := [(4, .int (x4 + 5)), (6, .int r104.1), (5, .int r100.1), (0, .ref 99), (1, .ref 0), (2, .ref 18), (3, .ref 28)]) d_L_law_773 rfl 6 rfl rfl (am_ltb rfl) rfl ?_
                                refine g_goto (n := 23) d_L_law_776 (by decide) ?_
                                refine g_ls [3, 4, 5, 6, 0] rfl ?_
                                exact ih (nc + 1) (ns + 6) g li su r100.2.2.1 r100.2.2.2.1 r100.2.2.2.2 ctb lcb adb fx us ln pt tx br rw (w.1, r104.2.1, w.2.2.1, w.2.2.2.1, w.2.2.2.2.1, w.2.2.2.2.2.1, w.2.2.2.2.2.2.1, w.2.2.2.2.2.2.2.1, w.2.2.2.2.2.2.2.2) r104.2.2 sp mp mf ml ps nm mu ch wy nx r100.2.1 (x4 + 5) _ (Nat.le_trans (by omega : nc + 1 + fuel ≤ nc + (fuel + 1)) hq) (Nat.le_trans (by omega : ns + 6 + 6 * fuel ≤ ns + 6 * (fuel + 1)) hq2) hf _ rfl
                              · have hf := ob_neg q110 hf
                                refine g_iconst (n := 576) (v := 0) d_L_law_575 rfl (by decide) ?_
                                cases hf
                                exact g_zret d_L_law_576 rfl am_z0 (Nat.le_trans (by omega : nc + 1 ≤ nc + (fuel + 1)) hq) (Nat.le_trans (by omega : ns + 6 ≤ ns + 6 * (fuel + 1)) hq2)
                          · have hf := ob_neg q108 hf
                            refine g_iconst (n := 559) (v := 0) d_L_law_558 rfl (by decide) ?_
                            cases hf
                            exact g_zret d_L_law_559 rfl am_z0 (Nat.le_trans (by omega : nc + 1 ≤ nc + (fuel + 1)) hq) (Nat.le_trans (by omega : ns + 6 ≤ ns + 6 * (fuel + 1)) hq2)
                        · have hf := ob_neg q97 hf
                          by_cases q111 : ((xs9 x4.toNatClampNeg) &&& 15) = 10
                          · have hf := ob_pos q111 hf
                            refine g_tabIn (n := 580) d_L_law_39 (by rw [q111]; decide) (by rw [q111]; decide) (by rw [q111]; rfl) (by decide) ?_
                            refine g_aload_n (n := 581) d_L_law_580 rfl 1 rfl rfl ?_
                            refine g_aload_n (n := 582) d_L_law_581 rfl 0 rfl rfl ?_
                            refine g_iload (n := 584) d_L_law_582 rfl 4 rfl ?_
                            refine g_iconst (n := 585) (v := 1) d_L_law_584 rfl (by decide) ?_
                            refine g_iadd (n := 586) d_L_law_585 rfl ?_
                            obtain ⟨b112, hf⟩ := ob_chk hf
                            refine g_sld (n := 587) d_L_law_586 rfl rfl (am_inl b112) (Nat.le_of_ble_eq_true rfl) ?_
                            obtain ⟨r113, h114, hf⟩ := ob_bind hf
                            refine c_Vl (n := 590) (st' := [.int r113.1]) [.int (xs9 (x4 + 1).toNatClampNeg)] [] d_L_law_587 rfl (s_V_cut htr h114 rfl) tw_238 tw_239 tw_240 tw_1 tw_241 hd_V_cut ⟨Nat.le_of_ble_eq_true rfl, Nat.le_of_ble_eq_true rfl⟩ (Nat.le_trans (by omega : nc ≤ nc + (fuel + 1)) hq) (Nat.le_trans (by omega : ns ≤ ns + 6 * (fuel + 1)) hq2) (ci := 6) rfl rfl rfl (Nat.le_of_ble_eq_true rfl) rfl rfl ?_
                            refine g_aload_n (n := 591) d_L_law_590 rfl 2 rfl rfl ?_
                            refine g_aload_n (n := 592) d_L_law_591 rfl 0 rfl rfl ?_
                            refine g_iload (n := 594) d_L_law_592 rfl 4 rfl ?_
                            refine g_iconst (n := 595) (v := 1) d_L_law_594 rfl (by decide) ?_
                            refine g_iadd (n := 596) d_L_law_595 rfl ?_
                            obtain ⟨b115, hf⟩ := ob_chk hf
                            refine g_sld (n := 597) d_L_law_596 rfl rfl (am_inl b115) (Nat.le_of_ble_eq_true rfl) ?_
                            obtain ⟨r116, h117, hf⟩ := ob_bind hf
                            refine c_Vl (n := 600) (st' := [.int r116.1, .int r113.1]) [.int (xs9 (x4 + 1).toNatClampNeg)] [.int r113.1] d_L_law_597 rfl (t_M_cut htr h117 rfl) tw_1115 tw_1116 tw_1117 tw_8 tw_1118 hd_M_cut ⟨Nat.le_of_ble_eq_true rfl, Nat.le_of_ble_eq_true rfl⟩ (Nat.le_trans (by omega : nc ≤ nc + (fuel + 1)) hq) (Nat.le_trans (by omega : ns ≤ ns + 6 * (fuel + 1)) hq2) (ci := 7) rfl rfl rfl (Nat.le_of_ble_eq_true rfl) rfl rfl ?_
                            refine g_icmp_eq (n := 603) (tgt := 773) d_L_law_600 rfl (by decide) (fun q118 => ?_) (fun q118 => ?_)
                            · have hf := ob_pos q118 hf
                              refine g_iinc (n := 776) (v := (x4 + 5)) (ls' := [(4, .int (x4 + 5)), (0, .ref 99), (1, .ref 0), (2, .ref 18), (3, .ref 28)]) d_L_law_773 rfl 4 rfl rfl (am_ltb rfl) rfl ?_
                              refine g_goto (n := 23) d_L_law_776 (by decide) ?_
                              refine g_ls [1, 2, 3, 4, 0] rfl ?_
                              exact ih nc ns (g.1, g.2.1, g.2.2.1, g.2.2.2.1, g.2.2.2.2.1, g.2.2.2.2.2.1, g.2.2.2.2.2.2.1, r113.2.1, r113.2.2, g.2.2.2.2.2.2.2.2.2) li su ct lc ad ctb lcb adb fx us ln pt tx br rw (w.1, w.2.1, w.2.2.1, r116.2.1, w.2.2.2.2.1, w.2.2.2.2.2.1, w.2.2.2.2.2.2.1, w.2.2.2.2.2.2.2.1, w.2.2.2.2.2.2.2.2) r116.2.2 sp mp mf ml ps nm mu ch wy nx ou (x4 + 5) _ (Nat.le_trans (by omega : nc + fuel ≤ nc + (fuel + 1)) hq) (Nat.le_trans (by omega : ns + 6 * fuel ≤ ns + 6 * (fuel + 1)) hq2) hf _ rfl
                            · have hf := ob_neg q118 hf
                              refine g_iconst (n := 604) (v := 0) d_L_law_603 rfl (by decide) ?_
                              cases hf
                              exact g_zret d_L_law_604 rfl am_z0 (Nat.le_trans (by omega : nc ≤ nc + (fuel + 1)) hq) (Nat.le_trans (by omega : ns ≤ ns + 6 * (fuel + 1)) hq2)
                          · have hf := ob_neg q111 hf
                            by_cases q119 : ((xs9 x4.toNatClampNeg) &&& 15) = 11
                            · have hf := ob_pos q119 hf
                              refine g_tabIn (n := 605) d_L_law_39 (by rw [q119]; decide) (by rw [q119]; decide) (by rw [q119]; rfl) (by decide) ?_
                              refine g_aload_n (n := 606) d_L_law_605 rfl 1 rfl rfl ?_
                              obtain ⟨r120, h121, hf⟩ := ob_bind hf
                              refine c_Vl (n := 609) (st' := [.int r120.1]) [] [] d_L_law_606 rfl (s_V_power htr h121 rfl) tw_246 tw_247 tw_248 tw_1 tw_249 hd_V_power ⟨Nat.le_of_ble_eq_true rfl, Nat.le_of_ble_eq_true rfl⟩ (Nat.le_trans (by omega : nc ≤ nc + (fuel + 1)) hq) (Nat.le_trans (by omega : ns ≤ ns + 6 * (fuel + 1)) hq2) (ci := 6) rfl rfl rfl (Nat.le_of_ble_eq_true rfl) rfl rfl ?_
                              refine g_aload_n (n := 610) d_L_law_609 rfl 2 rfl rfl ?_
                              obtain ⟨r122, h123, hf⟩ := ob_bind hf
                              refine c_Vl (n := 613) (st' := [.int r122.1, .int r120.1]) [] [.int r120.1] d_L_law_610 rfl (t_M_power htr h123 rfl) tw_1119 tw_1120 tw_1121 tw_8 tw_1122 hd_M_power ⟨Nat.le_of_ble_eq_true rfl, Nat.le_of_ble_eq_true rfl⟩ (Nat.le_trans (by omega : nc ≤ nc + (fuel + 1)) hq) (Nat.le_trans (by omega : ns ≤ ns + 6 * (fuel + 1)) hq2) (ci := 7) rfl rfl rfl (Nat.le_of_ble_eq_true rfl) rfl rfl ?_
                              refine g_icmp_eq (n := 616) (tgt := 773) d_L_law_613 rfl (by decide) (fun q124 => ?_) (fun q124 => ?_)
                              · have hf := ob_pos q124 hf
                                refine g_iinc (n := 776) (v := (x4 + 5)) (ls' := [(4, .int (x4 + 5)), (0, .ref 99), (1, .ref 0), (2, .ref 18), (3, .ref 28)]) d_L_law_773 rfl 4 rfl rfl (am_ltb rfl) rfl ?_
                                refine g_goto (n := 23) d_L_law_776 (by decide) ?_
                                refine g_ls [1, 2, 3, 4, 0] rfl ?_
                                exact ih nc ns (g.1, g.2.1, g.2.2.1, g.2.2.2.1, g.2.2.2.2.1, r120.2, g.2.2.2.2.2.2.1, g.2.2.2.2.2.2.2.1, g.2.2.2.2.2.2.2.2.1, g.2.2.2.2.2.2.2.2.2) li su ct lc ad ctb lcb adb fx us ln pt tx br rw (r122.2.1, w.2.1, w.2.2.1, w.2.2.2.1, w.2.2.2.2.1, w.2.2.2.2.2.1, w.2.2.2.2.2.2.1, w.2.2.2.2.2.2.2.1, w.2.2.2.2.2.2.2.2) r122.2.2 sp mp mf ml ps nm mu ch wy nx ou (x4 + 5) _ (Nat.le_trans (by omega : nc + fuel ≤ nc + (fuel + 1)) hq) (Nat.le_trans (by omega : ns + 6 * fuel ≤ ns + 6 * (fuel + 1)) hq2) hf _ rfl
                              · have hf := ob_neg q124 hf
                                refine g_iconst (n := 617) (v := 0) d_L_law_616 rfl (by decide) ?_
                                cases hf
                                exact g_zret d_L_law_617 rfl am_z0 (Nat.le_trans (by omega : nc ≤ nc + (fuel + 1)) hq) (Nat.le_trans (by omega : ns ≤ ns + 6 * (fuel + 1)) hq2)
                            · have hf := ob_neg q119 hf
                              by_cases q125 : ((xs9 x4.toNatClampNeg) &&& 15) = 12
                              · have hf := ob_pos q125 hf
                                refine g_tabIn (n := 618) d_L_law_39 (by rw [q125]; decide) (by rw [q125]; decide) (by rw [q125]; rfl) (by decide) ?_
                                refine g_aload_n (n := 619) d_L_law_618 rfl 1 rfl rfl ?_
                                refine g_aload_n (n := 620) d_L_law_619 rfl 3 rfl rfl ?_
                                obtain ⟨r126, h127, hf⟩ := ob_bind hf
                                refine c_SWl (n := 623) (st' := [.int r126.1]) [.ref 0, .ref 28] [] d_L_law_620 rfl (s_H_repair htr h127 rfl) tw_778 tw_779 tw_0 tw_780 hd_L_repair ⟨Nat.le_of_ble_eq_true rfl, Nat.le_of_ble_eq_true rfl⟩ (Nat.le_trans (by omega : nc + 1 ≤ nc + (fuel + 1)) hq) (Nat.le_trans (by omega : ns + 6 ≤ ns + 6 * (fuel + 1)) hq2) rfl (Nat.le_of_ble_eq_true rfl) rfl rfl ?_
                                refine g_istore (n := 625) (ls' := [(5, .int r126.1), (0, .ref 99), (1, .ref 0), (2, .ref 18), (3, .ref 28), (4, .int x4)]) d_L_law_623 rfl (am_ltb rfl) rfl ?_
                                refine g_aload_n (n := 626) d_L_law_625 rfl 3 rfl rfl ?_
                                obtain ⟨r128, h129, hf⟩ := ob_bind hf
                                refine c_Vl (n := 629) (st' := [.int r128.1]) [] [] d_L_law_626 rfl (t_M_repair htr h129 rfl) tw_1123 tw_1124 tw_1125 tw_8 tw_1126 hd_M_repair ⟨Nat.le_of_ble_eq_true rfl, Nat.le_of_ble_eq_true rfl⟩ (Nat.le_trans (by omega : nc + 1 ≤ nc + (fuel + 1)) hq) (Nat.le_trans (by omega : ns + 6 ≤ ns + 6 * (fuel + 1)) hq2) (ci := 7) rfl rfl rfl (Nat.le_of_ble_eq_true rfl) rfl rfl ?_
                                refine g_istore (n := 631) (ls' := [(6, .int r128.1), (5, .int r126.1), (0, .ref 99), (1, .ref 0), (2, .ref 18), (3, .ref 28), (4, .int x4)]) d_L_law_629 rfl (am_ltb rfl) rfl ?_
                                refine g_aload_n (n := 632) d_L_law_631 rfl 4 rfl rfl ?_
                                obtain ⟨r130, h131, hf⟩ := ob_bind hf
                                refine c_Vl (n := 635) (st' := [.int r130]) [] [] d_L_law_632 rfl (t_M_thrown htr h131 rfl) tw_926 tw_927 tw_928 tw_8 tw_929 hd_M_thrown ⟨Nat.le_of_ble_eq_true rfl, Nat.le_of_ble_eq_true rfl⟩ (Nat.le_trans (by omega : nc + 1 ≤ nc + (fuel + 1)) hq) (Nat.le_trans (by omega : ns + 6 ≤ ns + 6 * (fuel + 1)) hq2) (ci := 7) rfl rfl rfl (Nat.le_of_ble_eq_true rfl) rfl rfl ?_
                                refine g_iload (n := 637) d_L_law_635 rfl 1 rfl ?_
                                refine g_icmp_eq (n := 640) (tgt := 642) d_L_law_637 rfl (by decide) (fun q132 => ?_) (fun q132 => ?_)
                                · have hf := ob_pos q132 hf
                                  refine g_iload (n := 644) d_L_law_642 rfl 1 rfl ?_
                                  refine g_if_ne (n := 647) (tgt := 659) d_L_law_644 rfl (by decide) (fun q133 => ?_) (fun q133 => ?_)
                                  · have hf := ob_neg q133 hf
                                    refine g_goto (n := 773) d_L_law_659 (by decide) ?_
                                    refine g_iinc (n := 776) (v := (x4 + 5)) (ls' := [(4, .int (x4 + 5)), (6, .int r128.1), (5, .int r126.1), (0, .ref 99), (1, .ref 0), (2, .ref 18), (3, .ref 28)]) d_L_law_773 rfl 6 rfl rfl (am_ltb rfl) rfl ?_
                                    refine g_goto (n := 23) d_L_law_776 (by decide) ?_
                                    refine g_ls [3, 4, 5, 6, 0] rfl ?_
                                    exact ih (nc + 1) (ns + 6) r126.2.2.1 li r126.2.2.2.1 r126.2.2.2.2.1 r126.2.2.2.2.2.1 r126.2.2.2.2.2.2.1 ctb lcb adb r126.2.2.2.2.2.2.2.1 r126.2.2.2.2.2.2.2.2 ln pt tx br rw r128.2.1 r128.2.2.1 r128.2.2.2.1 mp r128.2.2.2.2.1 ml ps nm r128.2.2.2.2.2.1 r128.2.2.2.2.2.2.1 r128.2.2.2.2.2.2.2.1 r128.2.2.2.2.2.2.2.2 r126.2.1 (x4 + 5) _ (Nat.le_trans (by omega : nc + 1 + fuel ≤ nc + (fuel + 1)) hq) (Nat.le_trans (by omega : ns + 6 + 6 * fuel ≤ ns + 6 * (fuel + 1)) hq2) hf _ rfl
                                  · have hf := ob_pos q133 hf
                                    refine g_aload_n (n := 648) d_L_law_647 rfl 5 rfl rfl ?_
                                    refine g_iconst (n := 649) (v := 0) d_L_law_648 rfl (by decide) ?_
                                    refine g_lald (n := 650) (q0 := 28) d_L_law_649 rfl rfl (am_inl (by decide)) ?_
                                    refine g_iload (n := 652) d_L_law_650 rfl 0 rfl ?_
                                    refine g_i2l (n := 653) d_L_law_652 rfl ?_
                                    refine g_lcmp (n := 654) d_L_law_653 rfl ?_
                                    refine g_if_eq (n := 657) (tgt := 659) d_L_law_654 rfl (by decide) (fun q134 => ?_) (fun q134 => ?_)
                                    · have hf := ob_pos q134 hf
                                      refine g_goto (n := 773) d_L_law_659 (by decide) ?_
                                      refine g_iinc (n := 776) (v := (x4 + 5)) (ls' := [(4, .int (x4 + 5)), (6, .int r128.1), (5, .int r126.1), (0, .ref 99), (1, .ref 0), (2, .ref 18), (3, .ref 28)]) d_L_law_773 rfl 6 rfl rfl (am_ltb rfl) rfl ?_
                                      refine g_goto (n := 23) d_L_law_776 (by decide) ?_
                                      refine g_ls [3, 4, 5, 6, 0] rfl ?_
                                      exact ih (nc + 1) (ns + 6) r126.2.2.1 li r126.2.2.2.1 r126.2.2.2.2.1 r126.2.2.2.2.2.1 r126.2.2.2.2.2.2.1 ctb lcb adb r126.2.2.2.2.2.2.2.1 r126.2.2.2.2.2.2.2.2 ln pt tx br rw r128.2.1 r128.2.2.1 r128.2.2.2.1 mp r128.2.2.2.2.1 ml ps nm r128.2.2.2.2.2.1 r128.2.2.2.2.2.2.1 r128.2.2.2.2.2.2.2.1 r128.2.2.2.2.2.2.2.2 r126.2.1 (x4 + 5) _ (Nat.le_trans (by omega : nc + 1 + fuel ≤ nc + (fuel + 1)) hq) (Nat.le_trans (by omega : ns + 6 + 6 * fuel ≤ ns + 6 * (fuel + 1)) hq2) hf _ rfl
                                    · have hf := ob_neg q134 hf
                                      refine g_iconst (n := 658) (v := 0) d_L_law_657 rfl (by decide) ?_
                                      cases hf
                                      exact g_zret d_L_law_658 rfl am_z0 (Nat.le_trans (by omega : nc + 1 ≤ nc + (fuel + 1)) hq) (Nat.le_trans (by omega : ns + 6 ≤ ns + 6 * (fuel + 1)) hq2)
                                · have hf := ob_neg q132 hf
                                  refine g_iconst (n := 641) (v := 0) d_L_law_640 rfl (by decide) ?_
                                  cases hf
                                  exact g_zret d_L_law_641 rfl am_z0 (Nat.le_trans (by omega : nc + 1 ≤ nc + (fuel + 1)) hq) (Nat.le_trans (by omega : ns + 6 ≤ ns + 6 * (fuel + 1)) hq2)
                              · have hf := ob_neg q125 hf
                                by_cases q135 : ((xs9 x4.toNatClampNeg) &&& 15) = 13
                                · have hf := ob_pos q135 hf
                                  refine g_tabIn (n := 662) d_L_law_39 (by rw [q135]; decide) (by rw [q135]; decide) (by rw [q135]; rfl) (by decide) ?_
                                  refine g_aload_n (n := 663) d_L_law_662 rfl 1 rfl rfl ?_
                                  refine g_aload_n (n := 664) d_L_law_663 rfl 0 rfl rfl ?_
                                  refine g_iload (n := 666) d_L_law_664 rfl 4 rfl ?_
                                  refine g_iconst (n := 667) (v := 1) d_L_law_666 rfl (by decide) ?_
                                  refine g_iadd (n := 668) d_L_law_667 rfl ?_
                                  obtain ⟨b136, hf⟩ := ob_chk hf
                                  refine g_sld (n := 669) d_L_law_668 rfl rfl (am_inl b136) (Nat.le_of_ble_eq_true rfl) ?_
                                  refine g_aload_n (n := 670) d_L_law_669 rfl 0 rfl rfl ?_
                                  refine g_iload (n := 672) d_L_law_670 rfl 4 rfl ?_
                                  refine g_iconst (n := 673) (v := 2) d_L_law_672 rfl (by decide) ?_
                                  refine g_iadd (n := 674) d_L_law_673 rfl ?_
                                  obtain ⟨b137, hf⟩ := ob_chk hf
                                  refine g_sld (n := 675) d_L_law_674 rfl rfl (am_inl b137) (Nat.le_of_ble_eq_true rfl) ?_
                                  obtain ⟨r138, h139, hf⟩ := ob_bind hf
                                  refine c_Vl (n := 678) (st' := [.int r138]) [.int (xs9 (x4 + 1).toNatClampNeg), .int (xs9 (x4 + 2).toNatClampNeg)] [] d_L_law_675 rfl (s_V_octet htr h139 rfl) tw_254 tw_255 tw_256 tw_1 tw_257 hd_V_octet ⟨Nat.le_of_ble_eq_true rfl, Nat.le_of_ble_eq_true rfl⟩ (Nat.le_trans (by omega : nc ≤ nc + (fuel + 1)) hq) (Nat.le_trans (by omega : ns ≤ ns + 6 * (fuel + 1)) hq2) (ci := 6) rfl rfl rfl (Nat.le_of_ble_eq_true rfl) rfl rfl ?_
                                  refine g_aload_n (n := 679) d_L_law_678 rfl 2 rfl rfl ?_
                                  refine g_aload_n (n := 680) d_L_law_679 rfl 0 rfl rfl ?_
                                  refine g_iload (n := 682) d_L_law_680 rfl 4 rfl ?_
                                  refine g_iconst (n := 683) (v := 1) d_L_law_682 rfl (by decide) ?_
                                  refine g_iadd (n := 684) d_L_law_683 rfl ?_
                                  obtain ⟨b140, hf⟩ := ob_chk hf
                                  refine g_sld (n := 685) d_L_law_684 rfl rfl (am_inl b140) (Nat.le_of_ble_eq_true rfl) ?_
                                  refine g_aload_n (n := 686) d_L_law_685 rfl 0 rfl rfl ?_
                                  refine g_iload (n := 688) d_L_law_686 rfl 4 rfl ?_
                                  refine g_iconst (n := 689) (v := 2) d_L_law_688 rfl (by decide) ?_
                                  refine g_iadd (n := 690) d_L_law_689 rfl ?_
                                  obtain ⟨b141, hf⟩ := ob_chk hf
                                  refine g_sld (n := 691) d_L_law_690 rfl rfl (am_inl b141) (Nat.le_of_ble_eq_true rfl) ?_
                                  obtain ⟨r142, h143, hf⟩ := ob_bind hf
                                  refine c_Vl (n := 694) (st' := [.int r142.1, .int r138]) [.int (xs9 (x4 + 1).toNatClampNeg), .int (xs9 (x4 + 2).toNatClampNeg)] [.int r138] d_L_law_691 rfl (t_M_octet htr h143 rfl) tw_1156 tw_1157 tw_1158 tw_8 tw_1159 hd_M_octet ⟨Nat.le_of_ble_eq_true rfl, Nat.le_of_ble_eq_true rfl⟩ (Nat.le_trans (by omega : nc ≤ nc + (fuel + 1)) hq) (Nat.le_trans (by omega : ns ≤ ns + 6 * (fuel + 1)) hq2) (ci := 7) rfl rfl rfl (Nat.le_of_ble_eq_true rfl) rfl rfl ?_
                                  refine g_icmp_eq (n := 697) (tgt := 773) d_L_law_694 rfl (by decide) (fun q144 => ?_) (fun q144 => ?_)
                                  · have hf := ob_pos q144 hf
                                    refine g_iinc (n := 776) (v := (x4 + 5)) (ls' := [(4, .int (x4 + 5)), (0, .ref 99), (1, .ref 0), (2, .ref 18), (3, .ref 28)]) d_L_law_773 rfl 4 rfl rfl (am_ltb rfl) rfl ?_
                                    refine g_goto (n := 23) d_L_law_776 (by decide) ?_
                                    refine g_ls [1, 2, 3, 4, 0] rfl ?_
                                    exact ih nc ns g li su ct lc ad ctb lcb adb fx us ln pt tx br rw w r142.2 sp mp mf ml ps nm mu ch wy nx ou (x4 + 5) _ (Nat.le_trans (by omega : nc + fuel ≤ nc + (fuel + 1)) hq) (Nat.le_trans (by omega : ns + 6 * fuel ≤ ns + 6 * (fuel + 1)) hq2) hf _ rfl
                                  · have hf := ob_neg q144 hf
                                    refine g_iconst (n := 698) (v := 0) d_L_law_697 rfl (by decide) ?_
                                    cases hf
                                    exact g_zret d_L_law_698 rfl am_z0 (Nat.le_trans (by omega : nc ≤ nc + (fuel + 1)) hq) (Nat.le_trans (by omega : ns ≤ ns + 6 * (fuel + 1)) hq2)
                                · have hf := ob_neg q135 hf
                                  by_cases q145 : ((xs9 x4.toNatClampNeg) &&& 15) = 14
                                  · have hf := ob_pos q145 hf
                                    refine g_tabIn (n := 699) d_L_law_39 (by rw [q145]; decide) (by rw [q145]; decide) (by rw [q145]; rfl) (by decide) ?_
                                    refine g_aload_n (n := 700) d_L_law_699 rfl 1 rfl rfl ?_
                                    refine g_aload_n (n := 701) d_L_law_700 rfl 0 rfl rfl ?_
                                    refine g_iload (n := 703) d_L_law_701 rfl 4 rfl ?_
                                    refine g_iconst (n := 704) (v := 1) d_L_law_703 rfl (by decide) ?_
                                    refine g_iadd (n := 705) d_L_law_704 rfl ?_
                                    obtain ⟨b146, hf⟩ := ob_chk hf
                                    refine g_sld (n := 706) d_L_law_705 rfl rfl (am_inl b146) (Nat.le_of_ble_eq_true rfl) ?_
                                    refine g_aload_n (n := 707) d_L_law_706 rfl 0 rfl rfl ?_
                                    refine g_iload (n := 709) d_L_law_707 rfl 4 rfl ?_
                                    refine g_iconst (n := 710) (v := 2) d_L_law_709 rfl (by decide) ?_
                                    refine g_iadd (n := 711) d_L_law_710 rfl ?_
                                    obtain ⟨b147, hf⟩ := ob_chk hf
                                    refine g_sld (n := 712) d_L_law_711 rfl rfl (am_inl b147) (Nat.le_of_ble_eq_true rfl) ?_
                                    refine g_aload_n (n := 713) d_L_law_712 rfl 0 rfl rfl ?_
                                    refine g_iload (n := 715) d_L_law_713 rfl 4 rfl ?_
                                    refine g_iconst (n := 716) (v := 3) d_L_law_715 rfl (by decide) ?_
                                    refine g_iadd (n := 717) d_L_law_716 rfl ?_
                                    obtain ⟨b148, hf⟩ := ob_chk hf
                                    refine g_sld (n := 718) d_L_law_717 rfl rfl (am_inl b148) (Nat.le_of_ble_eq_true rfl) ?_
                                    obtain ⟨r149, h150, hf⟩ := ob_bind hf
                                    refine c_Vl (n := 721) (st' := [.int r149.1]) [.int (xs9 (x4 + 1).toNatClampNeg), .int (xs9 (x4 + 2).toNatClampNeg), .int (xs9 (x4 + 3).toNatClampNeg)] [] d_L_law_718 rfl (s_V_poke htr h150 rfl) tw_265 tw_266 tw_267 tw_1 tw_268 hd_V_poke ⟨Nat.le_of_ble_eq_true rfl, Nat.le_of_ble_eq_true rfl⟩ (Nat.le_trans (by omega : nc ≤ nc + (fuel + 1)) hq) (Nat.le_trans (by omega : ns ≤ ns + 6 * (fuel + 1)) hq2) (ci := 6) rfl rfl rfl (Nat.le_of_ble_eq_true rfl) rfl rfl ?_
                                    refine g_aload_n (n := 722) d_L_law_721 rfl 2 rfl rfl ?_
                                    refine g_aload_n (n := 723) d_L_law_722 rfl 0 rfl rfl ?_
                                    refine g_iload (n := 725) d_L_law_723 rfl 4 rfl ?_
                                    refine g_iconst (n := 726) (v := 1) d_L_law_725 rfl (by decide) ?_
                                    refine g_iadd (n := 727) d_L_law_726 rfl ?_
                                    obtain ⟨b151, hf⟩ := ob_chk hf
                                    refine g_sld (n := 728) d_L_law_727 rfl rfl (am_inl b151) (Nat.le_of_ble_eq_true rfl) ?_
                                    refine g_aload_n (n := 729) d_L_law_728 rfl 0 rfl rfl ?_
                                    refine g_iload (n := 731) d_L_law_729 rfl 4 rfl ?_
                                    refine g_iconst (n := 732) (v := 2) d_L_law_731 rfl (by decide) ?_
                                    refine g_iadd (n := 733) d_L_law_732 rfl ?_
                                    obtain ⟨b152, hf⟩ := ob_chk hf
                                    refine g_sld (n := 734) d_L_law_733 rfl rfl (am_inl b152) (Nat.le_of_ble_eq_true rfl) ?_
                                    refine g_aload_n (n := 735) d_L_law_734 rfl 0 rfl rfl ?_
                                    refine g_iload (n := 737) d_L_law_735 rfl 4 rfl ?_
                                    refine g_iconst (n := 738) (v := 3) d_L_law_737 rfl (by decide) ?_
                                    refine g_iadd (n := 739) d_L_law_738 rfl ?_
                                    obtain ⟨b153, hf⟩ := ob_chk hf
                                    refine g_sld (n := 740) d_L_law_739 rfl rfl (am_inl b153) (Nat.le_of_ble_eq_true rfl) ?_
                                    obtain ⟨r154, h155, hf⟩ := ob_bind hf
                                    refine c_Vl (n := 743) (st' := [.int r154.1, .int r149.1]) [.int (xs9 (x4 + 1).toNatClampNeg), .int (xs9 (x4 + 2).toNatClampNeg), .int (xs9 (x4 + 3).toNatClampNeg)] [.int r149.1] d_L_law_740 rfl (t_M_poke htr h155 rfl) tw_1160 tw_1161 tw_1162 tw_8 tw_1163 hd_M_poke ⟨Nat.le_of_ble_eq_true rfl, Nat.le_of_ble_eq_true rfl⟩ (Nat.le_trans (by omega : nc ≤ nc + (fuel + 1)) hq) (Nat.le_trans (by omega : ns ≤ ns + 6 * (fuel + 1)) hq2) (ci := 7) rfl rfl rfl (Nat.le_of_ble_eq_true rfl) rfl rfl ?_
                                    refine g_icmp_eq (n := 746) (tgt := 773) d_L_law_743 rfl (by decide) (fun q156 => ?_) (fun q156 => ?_)
                                    · have hf := ob_pos q156 hf
                                      refine g_iinc (n := 776) (v := (x4 + 5)) (ls' := [(4, .int (x4 + 5)), (0, .ref 99), (1, .ref 0), (2, .ref 18), (3, .ref 28)]) d_L_law_773 rfl 4 rfl rfl (am_ltb rfl) rfl ?_
                                      refine g_goto (n := 23) d_L_law_776 (by decide) ?_
                                      refine g_ls [1, 2, 3, 4, 0] rfl ?_
                                      exact ih nc ns (g.1, r149.2.1, r149.2.2.1, r149.2.2.2.1, r149.2.2.2.2.1, g.2.2.2.2.2.1, g.2.2.2.2.2.2.1, g.2.2.2.2.2.2.2.1, g.2.2.2.2.2.2.2.2.1, r149.2.2.2.2.2.2) li r149.2.2.2.2.2.1 ct lc ad ctb lcb adb fx us ln pt tx br rw (w.1, w.2.1, w.2.2.1, w.2.2.2.1, w.2.2.2.2.1, r154.2.1, r154.2.2.1, r154.2.2.2.1, r154.2.2.2.2.1) r154.2.2.2.2.2.1 r154.2.2.2.2.2.2 mp mf ml ps nm mu ch wy nx ou (x4 + 5) _ (Nat.le_trans (by omega : nc + fuel ≤ nc + (fuel + 1)) hq) (Nat.le_trans (by omega : ns + 6 * fuel ≤ ns + 6 * (fuel + 1)) hq2) hf _ rfl
                                    · have hf := ob_neg q156 hf
                                      refine g_iconst (n := 747) (v := 0) d_L_law_746 rfl (by decide) ?_
                                      cases hf
                                      exact g_zret d_L_law_747 rfl am_z0 (Nat.le_trans (by omega : nc ≤ nc + (fuel + 1)) hq) (Nat.le_trans (by omega : ns ≤ ns + 6 * (fuel + 1)) hq2)
                                  · have hf := ob_neg q145 hf
                                    by_cases q157 : ((xs9 x4.toNatClampNeg) &&& 15) = 15
                                    · have hf := ob_pos q157 hf
                                      refine g_tabIn (n := 748) d_L_law_39 (by rw [q157]; decide) (by rw [q157]; decide) (by rw [q157]; rfl) (by decide) ?_
                                      refine g_aload_n (n := 749) d_L_law_748 rfl 1 rfl rfl ?_
                                      refine g_aload_n (n := 750) d_L_law_749 rfl 0 rfl rfl ?_
                                      refine g_iload (n := 752) d_L_law_750 rfl 4 rfl ?_
                                      refine g_iconst (n := 753) (v := 1) d_L_law_752 rfl (by decide) ?_
                                      refine g_iadd (n := 754) d_L_law_753 rfl ?_
                                      obtain ⟨b158, hf⟩ := ob_chk hf
                                      refine g_sld (n := 755) d_L_law_754 rfl rfl (am_inl b158) (Nat.le_of_ble_eq_true rfl) ?_
                                      obtain ⟨r159, h160, hf⟩ := ob_bind hf
                                      refine c_Vl (n := 758) (st' := [.int r159]) [.int (xs9 (x4 + 1).toNatClampNeg)] [] d_L_law_755 rfl (s_V_look htr h160 rfl) tw_274 tw_275 tw_276 tw_1 tw_277 hd_V_look ⟨Nat.le_of_ble_eq_true rfl, Nat.le_of_ble_eq_true rfl⟩ (Nat.le_trans (by omega : nc ≤ nc + (fuel + 1)) hq) (Nat.le_trans (by omega : ns ≤ ns + 6 * (fuel + 1)) hq2) (ci := 6) rfl rfl rfl (Nat.le_of_ble_eq_true rfl) rfl rfl ?_
                                      refine g_aload_n (n := 759) d_L_law_758 rfl 2 rfl rfl ?_
                                      refine g_aload_n (n := 760) d_L_law_759 rfl 0 rfl rfl ?_
                                      refine g_iload (n := 762) d_L_law_760 rfl 4 rfl ?_
                                      refine g_iconst (n := 763) (v := 1) d_L_law_762 rfl (by decide) ?_
                                      refine g_iadd (n := 764) d_L_law_763 rfl ?_
                                      obtain ⟨b161, hf⟩ := ob_chk hf
                                      refine g_sld (n := 765) d_L_law_764 rfl rfl (am_inl b161) (Nat.le_of_ble_eq_true rfl) ?_
                                      obtain ⟨r162, h163, hf⟩ := ob_bind hf
                                      refine c_Vl (n := 768) (st' := [.int r162.1, .int r159]) [.int (xs9 (x4 + 1).toNatClampNeg)] [.int r159] d_L_law_765 rfl (t_M_look htr h163 rfl) tw_1164 tw_1165 tw_1166 tw_8 tw_1167 hd_M_look ⟨Nat.le_of_ble_eq_true rfl, Nat.le_of_ble_eq_true rfl⟩ (Nat.le_trans (by omega : nc ≤ nc + (fuel + 1)) hq) (Nat.le_trans (by omega : ns ≤ ns + 6 * (fuel + 1)) hq2) (ci := 7) rfl rfl rfl (Nat.le_of_ble_eq_true rfl) rfl rfl ?_
                                      refine g_icmp_eq (n := 771) (tgt := 773) d_L_law_768 rfl (by decide) (fun q164 => ?_) (fun q164 => ?_)
                                      · have hf := ob_pos q164 hf
                                        refine g_iinc (n := 776) (v := (x4 + 5)) (ls' := [(4, .int (x4 + 5)), (0, .ref 99), (1, .ref 0), (2, .ref 18), (3, .ref 28)]) d_L_law_773 rfl 4 rfl rfl (am_ltb rfl) rfl ?_
                                        refine g_goto (n := 23) d_L_law_776 (by decide) ?_
                                        refine g_ls [1, 2, 3, 4, 0] rfl ?_
                                        exact ih nc ns g li su ct lc ad ctb lcb adb fx us ln pt tx br rw w r162.2 sp mp mf ml ps nm mu ch wy nx ou (x4 + 5) _ (Nat.le_trans (by omega : nc + fuel ≤ nc + (fuel + 1)) hq) (Nat.le_trans (by omega : ns + 6 * fuel ≤ ns + 6 * (fuel + 1)) hq2) hf _ rfl
                                      · have hf := ob_neg q164 hf
                                        refine g_iconst (n := 772) (v := 0) d_L_law_771 rfl (by decide) ?_
                                        cases hf
                                        exact g_zret d_L_law_772 rfl am_z0 (Nat.le_trans (by omega : nc ≤ nc + (fuel + 1)) hq) (Nat.le_trans (by omega : ns ≤ ns + 6 * (fuel + 1)) hq2)
                                    · have hf := ob_neg q157 hf
                                      refine g_tabOut (n := 773) d_L_law_39 (by have z0 := lv_neT q3 (a := 0) (by decide); have z1 := lv_neT q11 (a := 1) (by decide); have z2 := lv_neT q21 (a := 2) (by decide); have z3 := lv_neT q29 (a := 3) (by decide); have z4 := lv_neT q37 (a := 4) (by decide); have z5 := lv_neT q47 (a := 5) (by decide); have z6 := lv_neT q55 (a := 6) (by decide); have z7 := lv_neT q65 (a := 7) (by decide); have z8 := lv_neT q79 (a := 8) (by decide); have z9 := lv_neT q97 (a := 9) (by decide); have z10 := lv_neT q111 (a := 10) (by decide); have z11 := lv_neT q119 (a := 11) (by decide); have z12 := lv_neT q125 (a := 12) (by decide); have z13 := lv_neT q135 (a := 13) (by decide); have z14 := lv_neT q145 (a := 14) (by decide); have z15 := lv_neT q157 (a := 15) (by decide); omega) (by decide) ?_
                                      refine g_iinc (n := 776) (v := (x4 + 5)) (ls' := [(4, .int (x4 + 5)), (0, .ref 99), (1, .ref 0), (2, .ref 18), (3, .ref 28)]) d_L_law_773 rfl 4 rfl rfl (am_ltb rfl) rfl ?_
                                      refine g_goto (n := 23) d_L_law_776 (by decide) ?_
                                      refine g_ls [1, 2, 3, 4, 0] rfl ?_
                                      exact ih nc ns g li su ct lc ad ctb lcb adb fx us ln pt tx br rw w th sp mp mf ml ps nm mu ch wy nx ou (x4 + 5) _ (Nat.le_trans (by omega : nc + fuel ≤ nc + (fuel + 1)) hq) (Nat.le_trans (by omega : ns + 6 * fuel ≤ ns + 6 * (fuel + 1)) hq2) hf _ rfl
def i0_ll : Int32 := 0
def i0_he : Int32 := 2
def i0_de : Int32 := 1
def i0_li : Nat → Int32 := (fun _ => 0)
def i0_en : Nat → Int32 := (upd (upd (upd (upd (fun _ => 0) (0 : Int32).toNatClampNeg (-1)) (1 : Int32).toNatClampNeg (-1)) (2 : Int32).toNatClampNeg (-1)) (3 : Int32).toNatClampNeg (-1))
def i0_po : Nat → Int32 := (upd (upd (upd (upd (fun _ => 0) (0 : Int32).toNatClampNeg 0) (1 : Int32).toNatClampNeg 0) (2 : Int32).toNatClampNeg 0) (3 : Int32).toNatClampNeg 0)
def i0_pw : Int32 := 1
def i0_su : Int32 := 0
def i0_wr : Int32 := 0
def i0_cs : Int32 := 0
def i0_wb : Int32 := 0
def i0_bt : Nat → Int32 := (upd (upd (upd (upd (upd (upd (upd (upd (upd (upd (upd (upd (fun _ => 0) (0 : Int32).toNatClampNeg 255) ((128 + 0) : Int32).toNatClampNeg 255) (1 : Int32).toNatClampNeg 255) ((128 + 1) : Int32).toNatClampNeg 255) (2 : Int32).toNatClampNeg 255) ((128 + 2) : Int32).toNatClampNeg 255) (3 : Int32).toNatClampNeg 255) ((128 + 3) : Int32).toNatClampNeg 255) (4 : Int32).toNatClampNeg 255) ((128 + 4) : Int32).toNatClampNeg 255) (5 : Int32).toNatClampNeg 255) ((128 + 5) : Int32).toNatClampNeg 255)
def i0_ct : Int32 := 0
def i0_lc : Int32 := 0
def i0_ad : Nat → Int32 := (fun _ => 0)
def i0_ctb : Int32 := 0
def i0_lcb : Int32 := 0
def i0_adb : Nat → Int32 := (fun _ => 0)
def i0_fx : Int32 := 0
def i0_us : Nat → Int32 := (fun _ => 0)
def i0_ln : Int32 := 0
def i0_pt : Int32 := 0
def i0_tx : Nat → Int32 := (fun _ => 0)
def i0_br : Nat → Int32 := (fun _ => 0)
def i0_rw : Nat → Int32 := (fun _ => 0)
def i0_on : Int32 := 1
def i0_dd : Int32 := 0
def i0_mw : Int32 := 0
def i0_cu : Int32 := (-1)
def i0_ty : Int32 := 0
def i0_mh : Int32 := 2
def i0_md : Int32 := 1
def i0_dk : Nat → Int32 := (upd (upd (upd (upd (upd (upd (upd (upd (upd (upd (upd (upd (fun _ => 0) ((2 * 0) : Int32).toNatClampNeg (65535 &&& 255)) (((2 * 0) + 1) : Int32).toNatClampNeg (((65535 : Int32) >>> ((8 : Int32) &&& 31)) &&& 255)) ((128 + (2 * 0)) : Int32).toNatClampNeg (65535 &&& 255)) (((128 + (2 * 0)) + 1) : Int32).toNatClampNeg (((65535 : Int32) >>> ((8 : Int32) &&& 31)) &&& 255)) ((2 * 1) : Int32).toNatClampNeg (65535 &&& 255)) (((2 * 1) + 1) : Int32).toNatClampNeg (((65535 : Int32) >>> ((8 : Int32) &&& 31)) &&& 255)) ((128 + (2 * 1)) : Int32).toNatClampNeg (65535 &&& 255)) (((128 + (2 * 1)) + 1) : Int32).toNatClampNeg (((65535 : Int32) >>> ((8 : Int32) &&& 31)) &&& 255)) ((2 * 2) : Int32).toNatClampNeg (65535 &&& 255)) (((2 * 2) + 1) : Int32).toNatClampNeg (((65535 : Int32) >>> ((8 : Int32) &&& 31)) &&& 255)) ((128 + (2 * 2)) : Int32).toNatClampNeg (65535 &&& 255)) (((128 + (2 * 2)) + 1) : Int32).toNatClampNeg (((65535 : Int32) >>> ((8 : Int32) &&& 31)) &&& 255))
def i0_op : Nat → Int32 := (fun _ => 0)
def i0_th : Int32 := 0
def i0_sp : Int32 := 0
def i0_mp : Int32 := 0
def i0_mf : Int32 := 0
def i0_ml : Nat → Int32 := (fun _ => 0)
def i0_ps : Nat → Int32 := (fun _ => 0)
def i0_nm : Nat → Int32 := (fun _ => 0)
def i0_mu : Nat → Int32 := (fun _ => 0)
def i0_ch : Nat → Int32 := (fun _ => 0)
def i0_wy : Nat → Int32 := (fun _ => 0)
def i0_nx : Nat → Int32 := (fun _ => 0)
def i0_ou : Nat → Int64 := (fun _ => 0)
def i0_g : am_WS := (i0_ll, i0_he, i0_de, i0_en, i0_po, i0_pw, i0_wr, i0_cs, i0_wb, i0_bt)
def i0_w : am_MS := (i0_on, i0_dd, i0_mw, i0_cu, i0_ty, i0_mh, i0_md, i0_dk, i0_op)
set_option maxHeartbeats 8000000 in
set_option maxRecDepth 100000 in
theorem s_law {l : Launch} {D : va_G} {dA : FieldType → ClassId} (htr : l.stackTraces = false) {L9 : Nat} {xs9 : Nat → Int32} {nm9 : String} {tb9 : List ExceptionTableEntry} {r : Int32 × am_WS × (Nat → Int32) × Int32 × Int32 × Int32 × (Nat → Int32) × Int32 × Int32 × (Nat → Int32) × Int32 × (Nat → Int32) × Int32 × Int32 × (Nat → Int32) × (Nat → Int32) × (Nat → Int32) × am_MS × Int32 × Int32 × Int32 × Int32 × (Nat → Int32) × (Nat → Int32) × (Nat → Int32) × (Nat → Int32) × (Nat → Int32) × (Nat → Int32) × (Nat → Int32) × (Nat → Int64)} (hf : f_L_law_L23 L9 xs9 600 i0_g i0_li i0_su i0_ct i0_lc i0_ad i0_ctb i0_lcb i0_adb i0_fx i0_us i0_ln i0_pt i0_tx i0_br i0_rw i0_w i0_th i0_sp i0_mp i0_mf i0_ml i0_ps i0_nm i0_mu i0_ch i0_wy i0_nx i0_ou 0 = some r) :
    am_G (am_kk l D dA) (ws_L, "FileVolumeLaw", code, 8, some .boolean, nm9, tb9, room_1, some (L9, xs9)) (.inl (some (.int r.1))) (hL r.2.1.1 r.2.1.2.1 r.2.1.2.2.1 r.2.2.1 r.2.1.2.2.2.1 r.2.1.2.2.2.2.1 r.2.1.2.2.2.2.2.1 r.2.2.2.1 r.2.1.2.2.2.2.2.2.1 r.2.1.2.2.2.2.2.2.2.1 r.2.1.2.2.2.2.2.2.2.2.1 r.2.1.2.2.2.2.2.2.2.2.2 r.2.2.2.2.1 r.2.2.2.2.2.1 r.2.2.2.2.2.2.1 r.2.2.2.2.2.2.2.1 r.2.2.2.2.2.2.2.2.1 r.2.2.2.2.2.2.2.2.2.1 r.2.2.2.2.2.2.2.2.2.2.1 r.2.2.2.2.2.2.2.2.2.2.2.1 r.2.2.2.2.2.2.2.2.2.2.2.2.1 r.2.2.2.2.2.2.2.2.2.2.2.2.2.1 r.2.2.2.2.2.2.2.2.2.2.2.2.2.2.1 r.2.2.2.2.2.2.2.2.2.2.2.2.2.2.2.1 r.2.2.2.2.2.2.2.2.2.2.2.2.2.2.2.2.1 r.2.2.2.2.2.2.2.2.2.2.2.2.2.2.2.2.2.1.1 r.2.2.2.2.2.2.2.2.2.2.2.2.2.2.2.2.2.1.2.1 r.2.2.2.2.2.2.2.2.2.2.2.2.2.2.2.2.2.1.2.2.1 r.2.2.2.2.2.2.2.2.2.2.2.2.2.2.2.2.2.1.2.2.2.1 r.2.2.2.2.2.2.2.2.2.2.2.2.2.2.2.2.2.1.2.2.2.2.1 r.2.2.2.2.2.2.2.2.2.2.2.2.2.2.2.2.2.1.2.2.2.2.2.1 r.2.2.2.2.2.2.2.2.2.2.2.2.2.2.2.2.2.1.2.2.2.2.2.2.1 r.2.2.2.2.2.2.2.2.2.2.2.2.2.2.2.2.2.1.2.2.2.2.2.2.2.1 r.2.2.2.2.2.2.2.2.2.2.2.2.2.2.2.2.2.1.2.2.2.2.2.2.2.2 r.2.2.2.2.2.2.2.2.2.2.2.2.2.2.2.2.2.2.1 r.2.2.2.2.2.2.2.2.2.2.2.2.2.2.2.2.2.2.2.1 r.2.2.2.2.2.2.2.2.2.2.2.2.2.2.2.2.2.2.2.2.1 r.2.2.2.2.2.2.2.2.2.2.2.2.2.2.2.2.2.2.2.2.2.1 r.2.2.2.2.2.2.2.2.2.2.2.2.2.2.2.2.2.2.2.2.2.2.1 r.2.2.2.2.2.2.2.2.2.2.2.2.2.2.2.2.2.2.2.2.2.2.2.1 r.2.2.2.2.2.2.2.2.2.2.2.2.2.2.2.2.2.2.2.2.2.2.2.2.1 r.2.2.2.2.2.2.2.2.2.2.2.2.2.2.2.2.2.2.2.2.2.2.2.2.2.1 r.2.2.2.2.2.2.2.2.2.2.2.2.2.2.2.2.2.2.2.2.2.2.2.2.2.2.1 r.2.2.2.2.2.2.2.2.2.2.2.2.2.2.2.2.2.2.2.2.2.2.2.2.2.2.2.1 r.2.2.2.2.2.2.2.2.2.2.2.2.2.2.2.2.2.2.2.2.2.2.2.2.2.2.2.2.1 r.2.2.2.2.2.2.2.2.2.2.2.2.2.2.2.2.2.2.2.2.2.2.2.2.2.2.2.2.2) 0 0 0 [(0, .ref 99)] [] [] := by
  refine g_new (n := 3) (ci := 6) (N := 8) (fs := [.null, .null, .null, .null, .null, .null, .null, .null]) (ty0 := ft_V) (nh := 0) (h' := [.inr (6, [.null, .null, .null, .null, .null, .null, .null, .null])]) d_L_law_0 rfl (fun w z => List.mem_cons_of_mem _ (in_V w z)) rfl typ_V.1 (List.mem_cons_of_mem _ tw_18) (List.mem_cons_of_mem _ tw_19) (List.mem_cons_of_mem _ tw_1) df_V (Nat.le_of_ble_eq_true rfl) (Nat.le_of_ble_eq_true rfl) rfl (fun _ _ => rfl) rfl rfl ?_
  refine g_dup (n := 4) d_L_law_3 rfl rfl ?_
  refine g_callI (n := 7) (q0 := 0) [] [.ref 0] d_L_law_4 rfl s_I9 (am_gdC tw_22) rfl (List.mem_cons_of_mem _ tw_1) (List.mem_cons_of_mem _ tw_20) (List.mem_cons_of_mem _ tw_21) rfl hd_V_init ⟨Nat.le_of_ble_eq_true rfl, Nat.le_of_ble_eq_true rfl⟩ ⟨Nat.le_of_ble_eq_true rfl, Nat.le_of_ble_eq_true rfl⟩ rfl (Nat.le_of_ble_eq_true rfl) rfl rfl ?_
  refine g_astore_n (n := 8) (ls' := [(1, .ref 0), (0, .ref 99)]) d_L_law_7 rfl rfl (am_ltb rfl) rfl ?_
  refine g_new (n := 11) (ci := 7) (N := 20) (fs := [.int 0, .null, .int 0, .int 0, .int 0, .int 0, .int 0, .null, .int 0, .int 0, .int 0, .null, .null, .null, .int 0, .null, .null, .null, .null, .int 0]) (ty0 := ft_M) (nh := 18) (h' := (hV0 ++ [.inr (7, [.int 0, .null, .int 0, .int 0, .int 0, .int 0, .int 0, .null, .int 0, .int 0, .int 0, .null, .null, .null, .int 0, .null, .null, .null, .null, .int 0])])) d_L_law_8 rfl (fun w z => List.mem_cons_of_mem _ (in_M w z)) rfl typ_M.1 (List.mem_cons_of_mem _ tw_854) (List.mem_cons_of_mem _ tw_855) (List.mem_cons_of_mem _ tw_8) df_M (Nat.le_of_ble_eq_true rfl) (Nat.le_of_ble_eq_true rfl) rfl (fun _ _ => rfl) rfl rfl ?_
  refine g_dup (n := 12) d_L_law_11 rfl rfl ?_
  refine g_callI (n := 15) (q0 := 18) [] [.ref 18] d_L_law_12 rfl s_I16 (am_gdC tw_858) rfl (List.mem_cons_of_mem _ tw_8) (List.mem_cons_of_mem _ tw_856) (List.mem_cons_of_mem _ tw_857) rfl hd_M_init ⟨Nat.le_of_ble_eq_true rfl, Nat.le_of_ble_eq_true rfl⟩ ⟨Nat.le_of_ble_eq_true rfl, Nat.le_of_ble_eq_true rfl⟩ rfl (Nat.le_of_ble_eq_true rfl) rfl rfl ?_
  refine g_astore_n (n := 16) (ls' := [(2, .ref 18), (1, .ref 0), (0, .ref 99)]) d_L_law_15 rfl rfl (am_ltb rfl) rfl ?_
  refine g_iconst (n := 17) (v := 1) d_L_law_16 rfl (by decide) ?_
  refine g_newa (n := 19) (ty := .long) (i := 1) (N := 1) (k9 := 3) (a0 := (1, .inr (.inl (fun _ => 0)))) (nh := 28) (h' := (hV0 ++ [.inr (7, [.int 0, .ref 19, .int 1, .int 0, .int 0, .int 0, .int (-1), .ref 20, .int 0, .int 2, .int 1, .ref 21, .ref 22, .ref 23, .int 0, .ref 24, .ref 25, .ref 26, .ref 27, .int 0]), .inl (.int, 2240, .inl (upd (upd (upd (upd (upd (upd (upd (upd (upd (upd (upd (upd (fun _ => 0) ((2 * 0) : Int32).toNatClampNeg (65535 &&& 255)) (((2 * 0) + 1) : Int32).toNatClampNeg (((65535 : Int32) >>> ((8 : Int32) &&& 31)) &&& 255)) ((128 + (2 * 0)) : Int32).toNatClampNeg (65535 &&& 255)) (((128 + (2 * 0)) + 1) : Int32).toNatClampNeg (((65535 : Int32) >>> ((8 : Int32) &&& 31)) &&& 255)) ((2 * 1) : Int32).toNatClampNeg (65535 &&& 255)) (((2 * 1) + 1) : Int32).toNatClampNeg (((65535 : Int32) >>> ((8 : Int32) &&& 31)) &&& 255)) ((128 + (2 * 1)) : Int32).toNatClampNeg (65535 &&& 255)) (((128 + (2 * 1)) + 1) : Int32).toNatClampNeg (((65535 : Int32) >>> ((8 : Int32) &&& 31)) &&& 255)) ((2 * 2) : Int32).toNatClampNeg (65535 &&& 255)) (((2 * 2) + 1) : Int32).toNatClampNeg (((65535 : Int32) >>> ((8 : Int32) &&& 31)) &&& 255)) ((128 + (2 * 2)) : Int32).toNatClampNeg (65535 &&& 255)) (((128 + (2 * 2)) + 1) : Int32).toNatClampNeg (((65535 : Int32) >>> ((8 : Int32) &&& 31)) &&& 255))), .inl (.int, 26, .inl (fun _ => 0)), .inl (.int, 4, .inl (fun _ => 0)), .inl (.int, 4, .inl (fun _ => 0)), .inl (.int, 6, .inl (fun _ => 0)), .inl (.boolean, 64, .inl (fun _ => 0)), .inl (.int, 64, .inl (fun _ => 0)), .inl (.int, 5, .inl (fun _ => 0)), .inl (.int, 5, .inl (fun _ => 0)), .inl (.long, 1, .inr (.inl (fun _ => 0)))])) d_L_law_17 rfl (List.mem_cons_of_mem _ tw_1169) rfl (fun _ => rfl) (fun _ z => by cases z) (fun _ => rfl) (by decide) (by decide) (by decide) (Nat.le_of_ble_eq_true rfl) (Nat.le_of_ble_eq_true rfl) rfl rfl rfl ?_
  refine g_astore_n (n := 20) (ls' := [(3, .ref 28), (2, .ref 18), (1, .ref 0), (0, .ref 99)]) d_L_law_19 rfl rfl (am_ltb rfl) rfl ?_
  refine g_iconst (n := 21) (v := 0) d_L_law_20 rfl (by decide) ?_
  refine g_istore (n := 23) (ls' := [(4, .int 0), (3, .ref 28), (2, .ref 18), (1, .ref 0), (0, .ref 99)]) d_L_law_21 rfl (am_ltb rfl) rfl ?_
  refine g_ls [4, 3, 2, 1, 0] rfl ?_
  exact s_L_law_L23 htr 600 29 5122 i0_g i0_li i0_su i0_ct i0_lc i0_ad i0_ctb i0_lcb i0_adb i0_fx i0_us i0_ln i0_pt i0_tx i0_br i0_rw i0_w i0_th i0_sp i0_mp i0_mf i0_ml i0_ps i0_nm i0_mu i0_ch i0_wy i0_nx i0_ou 0 r (Nat.le_of_ble_eq_true rfl) (Nat.le_of_ble_eq_true rfl) hf _ rfl
