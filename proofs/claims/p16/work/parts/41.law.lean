def am_oc9 (ou : Nat → Int64) : am_E := .inl (.long, 1, .inr (.inl ou))
abbrev hL (ll : Int32) (he : Int32) (de : Int32) (li : Nat → Int32) (en : Nat → Int32) (po : Nat → Int32) (pw : Int32) (su : Int32) (wr : Int32) (cs : Int32) (wb : Int32) (bt : Nat → Int32) (ct : Int32) (lc : Int32) (ad : Nat → Int32) (ctb : Int32) (lcb : Int32) (adb : Nat → Int32) (fx : Int32) (us : Nat → Int32) (ln : Int32) (pt : Int32) (tx : Nat → Int32) (br : Nat → Int32) (rw : Nat → Int32) (on : Int32) (dd : Int32) (mw : Int32) (cu : Int32) (ty : Int32) (mh : Int32) (md : Int32) (dk : Nat → Int32) (op : Nat → Int32) (th : Int32) (sp : Int32) (mp : Int32) (mf : Int32) (ml : Nat → Int32) (ps : Nat → Int32) (nm : Nat → Int32) (mu : Nat → Int32) (ch : Nat → Int32) (wy : Nat → Int32) (nx : Nat → Int32) (ou : Nat → Int64) : List am_E :=
  hC ll he de li en po pw su wr cs wb bt ct lc ad ctb lcb adb fx us ln pt tx br rw ((.inr (7, [.int th, .ref 19, .int on, .int sp, .int dd, .int mw, .int cu, .ref 20, .int ty, .int mh, .int md, .ref 21, .ref 22, .ref 23, .int mp, .ref 24, .ref 25, .ref 26, .ref 27, .int mf])) :: (.inl (.int, 2240, .inl dk)) :: (.inl (.int, 26, .inl ml)) :: (.inl (.int, 4, .inl op)) :: (.inl (.int, 4, .inl ps)) :: (.inl (.int, 6, .inl nm)) :: (.inl (.boolean, 64, .inl mu)) :: (.inl (.int, 64, .inl ch)) :: (.inl (.int, 5, .inl wy)) :: (.inl (.int, 5, .inl nx)) :: [.inl (.long, 1, .inr (.inl ou))])
def hX (ll : Int32) (he : Int32) (de : Int32) (li : Nat → Int32) (en : Nat → Int32) (po : Nat → Int32) (pw : Int32) (su : Int32) (wr : Int32) (cs : Int32) (wb : Int32) (bt : Nat → Int32) (ct : Int32) (lc : Int32) (ad : Nat → Int32) (ctb : Int32) (lcb : Int32) (adb : Nat → Int32) (fx : Int32) (us : Nat → Int32) (ln : Int32) (pt : Int32) (tx : Nat → Int32) (br : Nat → Int32) (rw : Nat → Int32) : Nat → am_E := fun i => (hC ll he de li en po pw su wr cs wb bt ct lc ad ctb lcb adb fx us ln pt tx br rw []).getD i (.inl (.int, 0, .inl (fun _ => 0)))
theorem t_M_type {l : Launch} {D : va_G} {dA : FieldType → ClassId} (htr : l.stackTraces = false) {ll : Int32} {he : Int32} {de : Int32} {li : Nat → Int32} {en : Nat → Int32} {po : Nat → Int32} {pw : Int32} {su : Int32} {wr : Int32} {cs : Int32} {wb : Int32} {bt : Nat → Int32} {ct : Int32} {lc : Int32} {ad : Nat → Int32} {ctb : Int32} {lcb : Int32} {adb : Nat → Int32} {fx : Int32} {us : Nat → Int32} {ln : Int32} {pt : Int32} {tx : Nat → Int32} {br : Nat → Int32} {rw : Nat → Int32} {on : Int32} {dd : Int32} {mw : Int32} {cu : Int32} {ty : Int32} {mh : Int32} {md : Int32} {dk : Nat → Int32} {op : Nat → Int32} {th : Int32} {sp : Int32} {mp : Int32} {mf : Int32} {ml : Nat → Int32} {ps : Nat → Int32} {nm : Nat → Int32} {mu : Nat → Int32} {ch : Nat → Int32} {wy : Nat → Int32} {nx : Nat → Int32} {ou : Nat → Int64} {x1 : Int32} {r : Int32 × Int32 × Int32 × (Nat → Int32)} (hf : f_M_type ty th ml x1 = some r) {o : am_O} (ho : .inl (some (.int r.1)) = o) :
    am_M (am_kk l D dA) y_M_type ws_M_type (am_rm 0 o) [.ref 18, .int x1] (hL ll he de li en po pw su wr cs wb bt ct lc ad ctb lcb adb fx us ln pt tx br rw on dd mw cu ty mh md dk op th sp mp mf ml ps nm mu ch wy nx ou) o (hL ll he de li en po pw su wr cs wb bt ct lc ad ctb lcb adb fx us ln pt tx br rw on dd mw cu r.2.1 mh md dk op r.2.2.1 sp mp mf r.2.2.2 ps nm mu ch wy nx ou) :=
  s_M_type (hx := hX ll he de li en po pw su wr cs wb bt ct lc ad ctb lcb adb fx us ln pt tx br rw) (rest := [.inl (.long, 1, .inr (.inl ou))]) htr hf ho
theorem t_M_create {l : Launch} {D : va_G} {dA : FieldType → ClassId} (htr : l.stackTraces = false) {ll : Int32} {he : Int32} {de : Int32} {li : Nat → Int32} {en : Nat → Int32} {po : Nat → Int32} {pw : Int32} {su : Int32} {wr : Int32} {cs : Int32} {wb : Int32} {bt : Nat → Int32} {ct : Int32} {lc : Int32} {ad : Nat → Int32} {ctb : Int32} {lcb : Int32} {adb : Nat → Int32} {fx : Int32} {us : Nat → Int32} {ln : Int32} {pt : Int32} {tx : Nat → Int32} {br : Nat → Int32} {rw : Nat → Int32} {th : Int32} {sp : Int32} {mp : Int32} {mf : Int32} {ml : Nat → Int32} {ps : Nat → Int32} {nm : Nat → Int32} {mu : Nat → Int32} {ch : Nat → Int32} {wy : Nat → Int32} {nx : Nat → Int32} {w : am_MS} {ou : Nat → Int64} {x1 : Int32} {r : am_MS × Int32 × Int32 × (Nat → Int32)} (hf : f_M_create w th sp mp ml nm x1 = some r) {o : am_O} (ho : .inl none = o) :
    am_M (am_kk l D dA) y_M_create ws_M_create (am_rm 8 o) [.ref 18, .int x1] (hL ll he de li en po pw su wr cs wb bt ct lc ad ctb lcb adb fx us ln pt tx br rw w.1 w.2.1 w.2.2.1 w.2.2.2.1 w.2.2.2.2.1 w.2.2.2.2.2.1 w.2.2.2.2.2.2.1 w.2.2.2.2.2.2.2.1 w.2.2.2.2.2.2.2.2 th sp mp mf ml ps nm mu ch wy nx ou) o (hL ll he de li en po pw su wr cs wb bt ct lc ad ctb lcb adb fx us ln pt tx br rw r.1.1 r.1.2.1 r.1.2.2.1 r.1.2.2.2.1 r.1.2.2.2.2.1 r.1.2.2.2.2.2.1 r.1.2.2.2.2.2.2.1 r.1.2.2.2.2.2.2.2.1 r.1.2.2.2.2.2.2.2.2 r.2.1 sp r.2.2.1 mf ml ps r.2.2.2 mu ch wy nx ou) :=
  s_M_create (hx := hX ll he de li en po pw su wr cs wb bt ct lc ad ctb lcb adb fx us ln pt tx br rw) (rest := [.inl (.long, 1, .inr (.inl ou))]) htr hf ho
theorem t_M_delete {l : Launch} {D : va_G} {dA : FieldType → ClassId} (htr : l.stackTraces = false) {ll : Int32} {he : Int32} {de : Int32} {li : Nat → Int32} {en : Nat → Int32} {po : Nat → Int32} {pw : Int32} {su : Int32} {wr : Int32} {cs : Int32} {wb : Int32} {bt : Nat → Int32} {ct : Int32} {lc : Int32} {ad : Nat → Int32} {ctb : Int32} {lcb : Int32} {adb : Nat → Int32} {fx : Int32} {us : Nat → Int32} {ln : Int32} {pt : Int32} {tx : Nat → Int32} {br : Nat → Int32} {rw : Nat → Int32} {th : Int32} {sp : Int32} {mp : Int32} {mf : Int32} {ml : Nat → Int32} {ps : Nat → Int32} {nm : Nat → Int32} {mu : Nat → Int32} {ch : Nat → Int32} {wy : Nat → Int32} {nx : Nat → Int32} {w : am_MS} {ou : Nat → Int64} {r : am_MS × Int32} (hf : f_M_delete w th sp ml = some r) {o : am_O} (ho : .inl none = o) :
    am_M (am_kk l D dA) y_M_delete ws_M_delete (am_rm 8 o) [.ref 18] (hL ll he de li en po pw su wr cs wb bt ct lc ad ctb lcb adb fx us ln pt tx br rw w.1 w.2.1 w.2.2.1 w.2.2.2.1 w.2.2.2.2.1 w.2.2.2.2.2.1 w.2.2.2.2.2.2.1 w.2.2.2.2.2.2.2.1 w.2.2.2.2.2.2.2.2 th sp mp mf ml ps nm mu ch wy nx ou) o (hL ll he de li en po pw su wr cs wb bt ct lc ad ctb lcb adb fx us ln pt tx br rw r.1.1 r.1.2.1 r.1.2.2.1 r.1.2.2.2.1 r.1.2.2.2.2.1 r.1.2.2.2.2.2.1 r.1.2.2.2.2.2.2.1 r.1.2.2.2.2.2.2.2.1 r.1.2.2.2.2.2.2.2.2 r.2 sp mp mf ml ps nm mu ch wy nx ou) :=
  s_M_delete (hx := hX ll he de li en po pw su wr cs wb bt ct lc ad ctb lcb adb fx us ln pt tx br rw) (rest := [.inl (.long, 1, .inr (.inl ou))]) htr hf ho
theorem t_M_enter {l : Launch} {D : va_G} {dA : FieldType → ClassId} (htr : l.stackTraces = false) {ll : Int32} {he : Int32} {de : Int32} {li : Nat → Int32} {en : Nat → Int32} {po : Nat → Int32} {pw : Int32} {su : Int32} {wr : Int32} {cs : Int32} {wb : Int32} {bt : Nat → Int32} {ct : Int32} {lc : Int32} {ad : Nat → Int32} {ctb : Int32} {lcb : Int32} {adb : Nat → Int32} {fx : Int32} {us : Nat → Int32} {ln : Int32} {pt : Int32} {tx : Nat → Int32} {br : Nat → Int32} {rw : Nat → Int32} {on : Int32} {dd : Int32} {mw : Int32} {cu : Int32} {ty : Int32} {mh : Int32} {md : Int32} {dk : Nat → Int32} {op : Nat → Int32} {th : Int32} {sp : Int32} {mp : Int32} {mf : Int32} {ml : Nat → Int32} {ps : Nat → Int32} {nm : Nat → Int32} {mu : Nat → Int32} {ch : Nat → Int32} {wy : Nat → Int32} {nx : Nat → Int32} {ou : Nat → Int64} {r : Int32 × Int32 × Int32 × Int32 × Int32} (hf : f_M_enter on dd ty mh md dk th sp ml = some r) {o : am_O} (ho : .inl none = o) :
    am_M (am_kk l D dA) y_M_enter ws_M_enter (am_rm 8 o) [.ref 18] (hL ll he de li en po pw su wr cs wb bt ct lc ad ctb lcb adb fx us ln pt tx br rw on dd mw cu ty mh md dk op th sp mp mf ml ps nm mu ch wy nx ou) o (hL ll he de li en po pw su wr cs wb bt ct lc ad ctb lcb adb fx us ln pt tx br rw on r.1 mw cu r.2.1 r.2.2.1 r.2.2.2.1 dk op r.2.2.2.2 sp mp mf ml ps nm mu ch wy nx ou) :=
  s_M_enter (hx := hX ll he de li en po pw su wr cs wb bt ct lc ad ctb lcb adb fx us ln pt tx br rw) (rest := [.inl (.long, 1, .inr (.inl ou))]) htr hf ho
theorem t_M_open {l : Launch} {D : va_G} {dA : FieldType → ClassId} (htr : l.stackTraces = false) {ll : Int32} {he : Int32} {de : Int32} {li : Nat → Int32} {en : Nat → Int32} {po : Nat → Int32} {pw : Int32} {su : Int32} {wr : Int32} {cs : Int32} {wb : Int32} {bt : Nat → Int32} {ct : Int32} {lc : Int32} {ad : Nat → Int32} {ctb : Int32} {lcb : Int32} {adb : Nat → Int32} {fx : Int32} {us : Nat → Int32} {ln : Int32} {pt : Int32} {tx : Nat → Int32} {br : Nat → Int32} {rw : Nat → Int32} {on : Int32} {dd : Int32} {mw : Int32} {cu : Int32} {ty : Int32} {mh : Int32} {md : Int32} {dk : Nat → Int32} {op : Nat → Int32} {th : Int32} {sp : Int32} {mp : Int32} {mf : Int32} {ml : Nat → Int32} {ps : Nat → Int32} {nm : Nat → Int32} {mu : Nat → Int32} {ch : Nat → Int32} {wy : Nat → Int32} {nx : Nat → Int32} {ou : Nat → Int64} {r : Int32 × Int32 × Int32 × (Nat → Int32) × Int32 × (Nat → Int32)} (hf : f_M_open on dd ty mh dk op th sp ml ps = some r) {o : am_O} (ho : .inl (some (.int r.1)) = o) :
    am_M (am_kk l D dA) y_M_open ws_M_open (am_rm 8 o) [.ref 18] (hL ll he de li en po pw su wr cs wb bt ct lc ad ctb lcb adb fx us ln pt tx br rw on dd mw cu ty mh md dk op th sp mp mf ml ps nm mu ch wy nx ou) o (hL ll he de li en po pw su wr cs wb bt ct lc ad ctb lcb adb fx us ln pt tx br rw on r.2.1 mw cu r.2.2.1 mh md dk r.2.2.2.1 r.2.2.2.2.1 sp mp mf ml r.2.2.2.2.2 nm mu ch wy nx ou) :=
  s_M_open (hx := hX ll he de li en po pw su wr cs wb bt ct lc ad ctb lcb adb fx us ln pt tx br rw) (rest := [.inl (.long, 1, .inr (.inl ou))]) htr hf ho
theorem t_M_close {l : Launch} {D : va_G} {dA : FieldType → ClassId} (htr : l.stackTraces = false) {ll : Int32} {he : Int32} {de : Int32} {li : Nat → Int32} {en : Nat → Int32} {po : Nat → Int32} {pw : Int32} {su : Int32} {wr : Int32} {cs : Int32} {wb : Int32} {bt : Nat → Int32} {ct : Int32} {lc : Int32} {ad : Nat → Int32} {ctb : Int32} {lcb : Int32} {adb : Nat → Int32} {fx : Int32} {us : Nat → Int32} {ln : Int32} {pt : Int32} {tx : Nat → Int32} {br : Nat → Int32} {rw : Nat → Int32} {on : Int32} {dd : Int32} {mw : Int32} {cu : Int32} {ty : Int32} {mh : Int32} {md : Int32} {dk : Nat → Int32} {op : Nat → Int32} {th : Int32} {sp : Int32} {mp : Int32} {mf : Int32} {ml : Nat → Int32} {ps : Nat → Int32} {nm : Nat → Int32} {mu : Nat → Int32} {ch : Nat → Int32} {wy : Nat → Int32} {nx : Nat → Int32} {ou : Nat → Int64} {x1 : Int32} {r : Int32 × (Nat → Int32) × Int32} (hf : f_M_close op th x1 = some r) {o : am_O} (ho : .inl (some (.int r.1)) = o) :
    am_M (am_kk l D dA) y_M_close ws_M_close (am_rm 2 o) [.ref 18, .int x1] (hL ll he de li en po pw su wr cs wb bt ct lc ad ctb lcb adb fx us ln pt tx br rw on dd mw cu ty mh md dk op th sp mp mf ml ps nm mu ch wy nx ou) o (hL ll he de li en po pw su wr cs wb bt ct lc ad ctb lcb adb fx us ln pt tx br rw on dd mw cu ty mh md dk r.2.1 r.2.2 sp mp mf ml ps nm mu ch wy nx ou) :=
  s_M_close (hx := hX ll he de li en po pw su wr cs wb bt ct lc ad ctb lcb adb fx us ln pt tx br rw) (rest := [.inl (.long, 1, .inr (.inl ou))]) htr hf ho
theorem t_M_seek {l : Launch} {D : va_G} {dA : FieldType → ClassId} (htr : l.stackTraces = false) {ll : Int32} {he : Int32} {de : Int32} {li : Nat → Int32} {en : Nat → Int32} {po : Nat → Int32} {pw : Int32} {su : Int32} {wr : Int32} {cs : Int32} {wb : Int32} {bt : Nat → Int32} {ct : Int32} {lc : Int32} {ad : Nat → Int32} {ctb : Int32} {lcb : Int32} {adb : Nat → Int32} {fx : Int32} {us : Nat → Int32} {ln : Int32} {pt : Int32} {tx : Nat → Int32} {br : Nat → Int32} {rw : Nat → Int32} {on : Int32} {dd : Int32} {mw : Int32} {cu : Int32} {ty : Int32} {mh : Int32} {md : Int32} {dk : Nat → Int32} {op : Nat → Int32} {th : Int32} {sp : Int32} {mp : Int32} {mf : Int32} {ml : Nat → Int32} {ps : Nat → Int32} {nm : Nat → Int32} {mu : Nat → Int32} {ch : Nat → Int32} {wy : Nat → Int32} {nx : Nat → Int32} {ou : Nat → Int64} {x1 : Int32} {x2 : Int32} {r : Int32 × Int32 × (Nat → Int32)} (hf : f_M_seek dk op th ps x1 x2 = some r) {o : am_O} (ho : .inl (some (.int r.1)) = o) :
    am_M (am_kk l D dA) y_M_seek ws_M_seek (am_rm 2 o) [.ref 18, .int x1, .int x2] (hL ll he de li en po pw su wr cs wb bt ct lc ad ctb lcb adb fx us ln pt tx br rw on dd mw cu ty mh md dk op th sp mp mf ml ps nm mu ch wy nx ou) o (hL ll he de li en po pw su wr cs wb bt ct lc ad ctb lcb adb fx us ln pt tx br rw on dd mw cu ty mh md dk op r.2.1 sp mp mf ml r.2.2 nm mu ch wy nx ou) :=
  s_M_seek (hx := hX ll he de li en po pw su wr cs wb bt ct lc ad ctb lcb adb fx us ln pt tx br rw) (rest := [.inl (.long, 1, .inr (.inl ou))]) htr hf ho
theorem t_M_read {l : Launch} {D : va_G} {dA : FieldType → ClassId} (htr : l.stackTraces = false) {ll : Int32} {he : Int32} {de : Int32} {li : Nat → Int32} {en : Nat → Int32} {po : Nat → Int32} {pw : Int32} {su : Int32} {wr : Int32} {cs : Int32} {wb : Int32} {bt : Nat → Int32} {ct : Int32} {lc : Int32} {ad : Nat → Int32} {ctb : Int32} {lcb : Int32} {adb : Nat → Int32} {fx : Int32} {us : Nat → Int32} {ln : Int32} {pt : Int32} {tx : Nat → Int32} {br : Nat → Int32} {rw : Nat → Int32} {on : Int32} {dd : Int32} {mw : Int32} {cu : Int32} {ty : Int32} {mh : Int32} {md : Int32} {dk : Nat → Int32} {op : Nat → Int32} {th : Int32} {sp : Int32} {mp : Int32} {mf : Int32} {ml : Nat → Int32} {ps : Nat → Int32} {nm : Nat → Int32} {mu : Nat → Int32} {ch : Nat → Int32} {wy : Nat → Int32} {nx : Nat → Int32} {ou : Nat → Int64} {x1 : Int32} {x2 : Int32} {r : Int64 × Int32 × Int32 × (Nat → Int32)} (hf : f_M_read on dd dk op th sp ps x1 x2 = some r) {o : am_O} (ho : .inl (some (.long r.1)) = o) :
    am_M (am_kk l D dA) y_M_read ws_M_read (am_rm 4 o) [.ref 18, .int x1, .int x2] (hL ll he de li en po pw su wr cs wb bt ct lc ad ctb lcb adb fx us ln pt tx br rw on dd mw cu ty mh md dk op th sp mp mf ml ps nm mu ch wy nx ou) o (hL ll he de li en po pw su wr cs wb bt ct lc ad ctb lcb adb fx us ln pt tx br rw on r.2.1 mw cu ty mh md dk op r.2.2.1 sp mp mf ml r.2.2.2 nm mu ch wy nx ou) :=
  s_M_read (hx := hX ll he de li en po pw su wr cs wb bt ct lc ad ctb lcb adb fx us ln pt tx br rw) (rest := [.inl (.long, 1, .inr (.inl ou))]) htr hf ho
theorem t_M_write {l : Launch} {D : va_G} {dA : FieldType → ClassId} (htr : l.stackTraces = false) {ll : Int32} {he : Int32} {de : Int32} {li : Nat → Int32} {en : Nat → Int32} {po : Nat → Int32} {pw : Int32} {su : Int32} {wr : Int32} {cs : Int32} {wb : Int32} {bt : Nat → Int32} {ct : Int32} {lc : Int32} {ad : Nat → Int32} {ctb : Int32} {lcb : Int32} {adb : Nat → Int32} {fx : Int32} {us : Nat → Int32} {ln : Int32} {pt : Int32} {tx : Nat → Int32} {br : Nat → Int32} {rw : Nat → Int32} {th : Int32} {sp : Int32} {mp : Int32} {mf : Int32} {ml : Nat → Int32} {ps : Nat → Int32} {nm : Nat → Int32} {mu : Nat → Int32} {ch : Nat → Int32} {wy : Nat → Int32} {nx : Nat → Int32} {w : am_MS} {ou : Nat → Int64} {x1 : Int32} {x2 : Int64} {x4 : Int32} {r : Int32 × am_MS × Int32 × (Nat → Int32)} (hf : f_M_write w th sp ps x1 x2 x4 = some r) {o : am_O} (ho : .inl (some (.int r.1)) = o) :
    am_M (am_kk l D dA) y_M_write ws_M_write (am_rm 4 o) [.ref 18, .int x1, .long x2, .int x4] (hL ll he de li en po pw su wr cs wb bt ct lc ad ctb lcb adb fx us ln pt tx br rw w.1 w.2.1 w.2.2.1 w.2.2.2.1 w.2.2.2.2.1 w.2.2.2.2.2.1 w.2.2.2.2.2.2.1 w.2.2.2.2.2.2.2.1 w.2.2.2.2.2.2.2.2 th sp mp mf ml ps nm mu ch wy nx ou) o (hL ll he de li en po pw su wr cs wb bt ct lc ad ctb lcb adb fx us ln pt tx br rw r.2.1.1 r.2.1.2.1 r.2.1.2.2.1 r.2.1.2.2.2.1 r.2.1.2.2.2.2.1 r.2.1.2.2.2.2.2.1 r.2.1.2.2.2.2.2.2.1 r.2.1.2.2.2.2.2.2.2.1 r.2.1.2.2.2.2.2.2.2.2 r.2.2.1 sp mp mf ml r.2.2.2 nm mu ch wy nx ou) :=
  s_M_write (hx := hX ll he de li en po pw su wr cs wb bt ct lc ad ctb lcb adb fx us ln pt tx br rw) (rest := [.inl (.long, 1, .inr (.inl ou))]) htr hf ho
theorem t_M_list {l : Launch} {D : va_G} {dA : FieldType → ClassId} (htr : l.stackTraces = false) {ll : Int32} {he : Int32} {de : Int32} {li : Nat → Int32} {en : Nat → Int32} {po : Nat → Int32} {pw : Int32} {su : Int32} {wr : Int32} {cs : Int32} {wb : Int32} {bt : Nat → Int32} {ct : Int32} {lc : Int32} {ad : Nat → Int32} {ctb : Int32} {lcb : Int32} {adb : Nat → Int32} {fx : Int32} {us : Nat → Int32} {ln : Int32} {pt : Int32} {tx : Nat → Int32} {br : Nat → Int32} {rw : Nat → Int32} {on : Int32} {dd : Int32} {mw : Int32} {cu : Int32} {ty : Int32} {mh : Int32} {md : Int32} {dk : Nat → Int32} {op : Nat → Int32} {th : Int32} {sp : Int32} {mp : Int32} {mf : Int32} {ml : Nat → Int32} {ps : Nat → Int32} {nm : Nat → Int32} {mu : Nat → Int32} {ch : Nat → Int32} {wy : Nat → Int32} {nx : Nat → Int32} {ou : Nat → Int64} {x1 : Int32} {x2 : Int32} {r : Int32 × Int32 × Int32} (hf : f_M_list on dd mh dk th sp x1 x2 = some r) {o : am_O} (ho : .inl (some (.int r.1)) = o) :
    am_M (am_kk l D dA) y_M_list ws_M_list (am_rm 6 o) [.ref 18, .int x1, .int x2] (hL ll he de li en po pw su wr cs wb bt ct lc ad ctb lcb adb fx us ln pt tx br rw on dd mw cu ty mh md dk op th sp mp mf ml ps nm mu ch wy nx ou) o (hL ll he de li en po pw su wr cs wb bt ct lc ad ctb lcb adb fx us ln pt tx br rw on r.2.1 mw cu ty mh md dk op r.2.2 sp mp mf ml ps nm mu ch wy nx ou) :=
  s_M_list (hx := hX ll he de li en po pw su wr cs wb bt ct lc ad ctb lcb adb fx us ln pt tx br rw) (rest := [.inl (.long, 1, .inr (.inl ou))]) htr hf ho
theorem t_M_cut {l : Launch} {D : va_G} {dA : FieldType → ClassId} (htr : l.stackTraces = false) {ll : Int32} {he : Int32} {de : Int32} {li : Nat → Int32} {en : Nat → Int32} {po : Nat → Int32} {pw : Int32} {su : Int32} {wr : Int32} {cs : Int32} {wb : Int32} {bt : Nat → Int32} {ct : Int32} {lc : Int32} {ad : Nat → Int32} {ctb : Int32} {lcb : Int32} {adb : Nat → Int32} {fx : Int32} {us : Nat → Int32} {ln : Int32} {pt : Int32} {tx : Nat → Int32} {br : Nat → Int32} {rw : Nat → Int32} {on : Int32} {dd : Int32} {mw : Int32} {cu : Int32} {ty : Int32} {mh : Int32} {md : Int32} {dk : Nat → Int32} {op : Nat → Int32} {th : Int32} {sp : Int32} {mp : Int32} {mf : Int32} {ml : Nat → Int32} {ps : Nat → Int32} {nm : Nat → Int32} {mu : Nat → Int32} {ch : Nat → Int32} {wy : Nat → Int32} {nx : Nat → Int32} {ou : Nat → Int64} {x1 : Int32} {r : Int32 × Int32 × Int32} (hf : f_M_cut on cu th x1 = some r) {o : am_O} (ho : .inl (some (.int r.1)) = o) :
    am_M (am_kk l D dA) y_M_cut ws_M_cut (am_rm 0 o) [.ref 18, .int x1] (hL ll he de li en po pw su wr cs wb bt ct lc ad ctb lcb adb fx us ln pt tx br rw on dd mw cu ty mh md dk op th sp mp mf ml ps nm mu ch wy nx ou) o (hL ll he de li en po pw su wr cs wb bt ct lc ad ctb lcb adb fx us ln pt tx br rw on dd mw r.2.1 ty mh md dk op r.2.2 sp mp mf ml ps nm mu ch wy nx ou) :=
  s_M_cut (hx := hX ll he de li en po pw su wr cs wb bt ct lc ad ctb lcb adb fx us ln pt tx br rw) (rest := [.inl (.long, 1, .inr (.inl ou))]) htr hf ho
theorem t_M_power {l : Launch} {D : va_G} {dA : FieldType → ClassId} (htr : l.stackTraces = false) {ll : Int32} {he : Int32} {de : Int32} {li : Nat → Int32} {en : Nat → Int32} {po : Nat → Int32} {pw : Int32} {su : Int32} {wr : Int32} {cs : Int32} {wb : Int32} {bt : Nat → Int32} {ct : Int32} {lc : Int32} {ad : Nat → Int32} {ctb : Int32} {lcb : Int32} {adb : Nat → Int32} {fx : Int32} {us : Nat → Int32} {ln : Int32} {pt : Int32} {tx : Nat → Int32} {br : Nat → Int32} {rw : Nat → Int32} {on : Int32} {dd : Int32} {mw : Int32} {cu : Int32} {ty : Int32} {mh : Int32} {md : Int32} {dk : Nat → Int32} {op : Nat → Int32} {th : Int32} {sp : Int32} {mp : Int32} {mf : Int32} {ml : Nat → Int32} {ps : Nat → Int32} {nm : Nat → Int32} {mu : Nat → Int32} {ch : Nat → Int32} {wy : Nat → Int32} {nx : Nat → Int32} {ou : Nat → Int64} {r : Int32 × Int32 × Int32} (hf : f_M_power on th = some r) {o : am_O} (ho : .inl (some (.int r.1)) = o) :
    am_M (am_kk l D dA) y_M_power ws_M_power (am_rm 0 o) [.ref 18] (hL ll he de li en po pw su wr cs wb bt ct lc ad ctb lcb adb fx us ln pt tx br rw on dd mw cu ty mh md dk op th sp mp mf ml ps nm mu ch wy nx ou) o (hL ll he de li en po pw su wr cs wb bt ct lc ad ctb lcb adb fx us ln pt tx br rw r.2.1 dd mw cu ty mh md dk op r.2.2 sp mp mf ml ps nm mu ch wy nx ou) :=
  s_M_power (hx := hX ll he de li en po pw su wr cs wb bt ct lc ad ctb lcb adb fx us ln pt tx br rw) (rest := [.inl (.long, 1, .inr (.inl ou))]) htr hf ho
theorem t_M_repair {l : Launch} {D : va_G} {dA : FieldType → ClassId} (htr : l.stackTraces = false) {ll : Int32} {he : Int32} {de : Int32} {li : Nat → Int32} {en : Nat → Int32} {po : Nat → Int32} {pw : Int32} {su : Int32} {wr : Int32} {cs : Int32} {wb : Int32} {bt : Nat → Int32} {ct : Int32} {lc : Int32} {ad : Nat → Int32} {ctb : Int32} {lcb : Int32} {adb : Nat → Int32} {fx : Int32} {us : Nat → Int32} {ln : Int32} {pt : Int32} {tx : Nat → Int32} {br : Nat → Int32} {rw : Nat → Int32} {th : Int32} {sp : Int32} {mp : Int32} {mf : Int32} {ml : Nat → Int32} {ps : Nat → Int32} {nm : Nat → Int32} {mu : Nat → Int32} {ch : Nat → Int32} {wy : Nat → Int32} {nx : Nat → Int32} {w : am_MS} {ou : Nat → Int64} {r : Int32 × am_MS × Int32 × Int32 × Int32 × (Nat → Int32) × (Nat → Int32) × (Nat → Int32) × (Nat → Int32)} (hf : f_M_repair w th sp mf mu ch wy nx = some r) {o : am_O} (ho : .inl (some (.int r.1)) = o) :
    am_M (am_kk l D dA) y_M_repair ws_M_repair (am_rm 7 o) [.ref 18] (hL ll he de li en po pw su wr cs wb bt ct lc ad ctb lcb adb fx us ln pt tx br rw w.1 w.2.1 w.2.2.1 w.2.2.2.1 w.2.2.2.2.1 w.2.2.2.2.2.1 w.2.2.2.2.2.2.1 w.2.2.2.2.2.2.2.1 w.2.2.2.2.2.2.2.2 th sp mp mf ml ps nm mu ch wy nx ou) o (hL ll he de li en po pw su wr cs wb bt ct lc ad ctb lcb adb fx us ln pt tx br rw r.2.1.1 r.2.1.2.1 r.2.1.2.2.1 r.2.1.2.2.2.1 r.2.1.2.2.2.2.1 r.2.1.2.2.2.2.2.1 r.2.1.2.2.2.2.2.2.1 r.2.1.2.2.2.2.2.2.2.1 r.2.1.2.2.2.2.2.2.2.2 r.2.2.1 r.2.2.2.1 mp r.2.2.2.2.1 ml ps nm r.2.2.2.2.2.1 r.2.2.2.2.2.2.1 r.2.2.2.2.2.2.2.1 r.2.2.2.2.2.2.2.2 ou) :=
  s_M_repair (hx := hX ll he de li en po pw su wr cs wb bt ct lc ad ctb lcb adb fx us ln pt tx br rw) (rest := [.inl (.long, 1, .inr (.inl ou))]) htr hf ho
theorem t_M_octet {l : Launch} {D : va_G} {dA : FieldType → ClassId} (htr : l.stackTraces = false) {ll : Int32} {he : Int32} {de : Int32} {li : Nat → Int32} {en : Nat → Int32} {po : Nat → Int32} {pw : Int32} {su : Int32} {wr : Int32} {cs : Int32} {wb : Int32} {bt : Nat → Int32} {ct : Int32} {lc : Int32} {ad : Nat → Int32} {ctb : Int32} {lcb : Int32} {adb : Nat → Int32} {fx : Int32} {us : Nat → Int32} {ln : Int32} {pt : Int32} {tx : Nat → Int32} {br : Nat → Int32} {rw : Nat → Int32} {on : Int32} {dd : Int32} {mw : Int32} {cu : Int32} {ty : Int32} {mh : Int32} {md : Int32} {dk : Nat → Int32} {op : Nat → Int32} {th : Int32} {sp : Int32} {mp : Int32} {mf : Int32} {ml : Nat → Int32} {ps : Nat → Int32} {nm : Nat → Int32} {mu : Nat → Int32} {ch : Nat → Int32} {wy : Nat → Int32} {nx : Nat → Int32} {ou : Nat → Int64} {x1 : Int32} {x2 : Int32} {r : Int32 × Int32} (hf : f_M_octet dk th x1 x2 = some r) {o : am_O} (ho : .inl (some (.int r.1)) = o) :
    am_M (am_kk l D dA) y_M_octet ws_M_octet (am_rm 1 o) [.ref 18, .int x1, .int x2] (hL ll he de li en po pw su wr cs wb bt ct lc ad ctb lcb adb fx us ln pt tx br rw on dd mw cu ty mh md dk op th sp mp mf ml ps nm mu ch wy nx ou) o (hL ll he de li en po pw su wr cs wb bt ct lc ad ctb lcb adb fx us ln pt tx br rw on dd mw cu ty mh md dk op r.2 sp mp mf ml ps nm mu ch wy nx ou) :=
  s_M_octet (hx := hX ll he de li en po pw su wr cs wb bt ct lc ad ctb lcb adb fx us ln pt tx br rw) (rest := [.inl (.long, 1, .inr (.inl ou))]) htr hf ho
theorem t_M_poke {l : Launch} {D : va_G} {dA : FieldType → ClassId} (htr : l.stackTraces = false) {ll : Int32} {he : Int32} {de : Int32} {li : Nat → Int32} {en : Nat → Int32} {po : Nat → Int32} {pw : Int32} {su : Int32} {wr : Int32} {cs : Int32} {wb : Int32} {bt : Nat → Int32} {ct : Int32} {lc : Int32} {ad : Nat → Int32} {ctb : Int32} {lcb : Int32} {adb : Nat → Int32} {fx : Int32} {us : Nat → Int32} {ln : Int32} {pt : Int32} {tx : Nat → Int32} {br : Nat → Int32} {rw : Nat → Int32} {on : Int32} {dd : Int32} {mw : Int32} {cu : Int32} {ty : Int32} {mh : Int32} {md : Int32} {dk : Nat → Int32} {op : Nat → Int32} {th : Int32} {sp : Int32} {mp : Int32} {mf : Int32} {ml : Nat → Int32} {ps : Nat → Int32} {nm : Nat → Int32} {mu : Nat → Int32} {ch : Nat → Int32} {wy : Nat → Int32} {nx : Nat → Int32} {ou : Nat → Int64} {x1 : Int32} {x2 : Int32} {x3 : Int32} {r : Int32 × Int32 × Int32 × (Nat → Int32) × (Nat → Int32) × Int32 × Int32} (hf : f_M_poke mh md dk op th sp x1 x2 x3 = some r) {o : am_O} (ho : .inl (some (.int r.1)) = o) :
    am_M (am_kk l D dA) y_M_poke ws_M_poke (am_rm 1 o) [.ref 18, .int x1, .int x2, .int x3] (hL ll he de li en po pw su wr cs wb bt ct lc ad ctb lcb adb fx us ln pt tx br rw on dd mw cu ty mh md dk op th sp mp mf ml ps nm mu ch wy nx ou) o (hL ll he de li en po pw su wr cs wb bt ct lc ad ctb lcb adb fx us ln pt tx br rw on dd mw cu ty r.2.1 r.2.2.1 r.2.2.2.1 r.2.2.2.2.1 r.2.2.2.2.2.1 r.2.2.2.2.2.2 mp mf ml ps nm mu ch wy nx ou) :=
  s_M_poke (hx := hX ll he de li en po pw su wr cs wb bt ct lc ad ctb lcb adb fx us ln pt tx br rw) (rest := [.inl (.long, 1, .inr (.inl ou))]) htr hf ho
theorem t_M_look {l : Launch} {D : va_G} {dA : FieldType → ClassId} (htr : l.stackTraces = false) {ll : Int32} {he : Int32} {de : Int32} {li : Nat → Int32} {en : Nat → Int32} {po : Nat → Int32} {pw : Int32} {su : Int32} {wr : Int32} {cs : Int32} {wb : Int32} {bt : Nat → Int32} {ct : Int32} {lc : Int32} {ad : Nat → Int32} {ctb : Int32} {lcb : Int32} {adb : Nat → Int32} {fx : Int32} {us : Nat → Int32} {ln : Int32} {pt : Int32} {tx : Nat → Int32} {br : Nat → Int32} {rw : Nat → Int32} {on : Int32} {dd : Int32} {mw : Int32} {cu : Int32} {ty : Int32} {mh : Int32} {md : Int32} {dk : Nat → Int32} {op : Nat → Int32} {th : Int32} {sp : Int32} {mp : Int32} {mf : Int32} {ml : Nat → Int32} {ps : Nat → Int32} {nm : Nat → Int32} {mu : Nat → Int32} {ch : Nat → Int32} {wy : Nat → Int32} {nx : Nat → Int32} {ou : Nat → Int64} {x1 : Int32} {r : Int32 × Int32} (hf : f_M_look on mw ty mh dk op th ps x1 = some r) {o : am_O} (ho : .inl (some (.int r.1)) = o) :
    am_M (am_kk l D dA) y_M_look ws_M_look (am_rm 2 o) [.ref 18, .int x1] (hL ll he de li en po pw su wr cs wb bt ct lc ad ctb lcb adb fx us ln pt tx br rw on dd mw cu ty mh md dk op th sp mp mf ml ps nm mu ch wy nx ou) o (hL ll he de li en po pw su wr cs wb bt ct lc ad ctb lcb adb fx us ln pt tx br rw on dd mw cu ty mh md dk op r.2 sp mp mf ml ps nm mu ch wy nx ou) :=
  s_M_look (hx := hX ll he de li en po pw su wr cs wb bt ct lc ad ctb lcb adb fx us ln pt tx br rw) (rest := [.inl (.long, 1, .inr (.inl ou))]) htr hf ho
def f_H_create (g : am_WS) (li : Nat → Int32) (su : Int32) (ct : Int32) (lc : Int32) (ad : Nat → Int32) (ln : Int32) (pt : Int32) (tx : Nat → Int32) (br : Nat → Int32) (rw : Nat → Int32) (x1 : Int32) : Option (Int32 × am_WS × Int32 × Int32 × (Nat → Int32) × Int32 × Int32 × (Nat → Int32) × (Nat → Int32) × (Nat → Int32)) :=
  ((f_V_create g li su ct lc ad ln pt tx br rw x1).bind fun r1 => am_t r1.1 (fun E1 => (if E1 = "java/lang/IllegalStateException" then some (1, r1.2.1, r1.2.2.1, r1.2.2.2.1, r1.2.2.2.2.1, r1.2.2.2.2.2.1, r1.2.2.2.2.2.2.1, r1.2.2.2.2.2.2.2.1, r1.2.2.2.2.2.2.2.2.1, r1.2.2.2.2.2.2.2.2.2) else (if E1 = "java/lang/IllegalArgumentException" then some (2, r1.2.1, r1.2.2.1, r1.2.2.2.1, r1.2.2.2.2.1, r1.2.2.2.2.2.1, r1.2.2.2.2.2.2.1, r1.2.2.2.2.2.2.2.1, r1.2.2.2.2.2.2.2.2.1, r1.2.2.2.2.2.2.2.2.2) else (if E1 = "java/lang/UnsupportedOperationException" then some (3, r1.2.1, r1.2.2.1, r1.2.2.2.1, r1.2.2.2.2.1, r1.2.2.2.2.2.1, r1.2.2.2.2.2.2.1, r1.2.2.2.2.2.2.2.1, r1.2.2.2.2.2.2.2.2.1, r1.2.2.2.2.2.2.2.2.2) else none)))) (fun _ => some (0, r1.2.1, r1.2.2.1, r1.2.2.2.1, r1.2.2.2.2.1, r1.2.2.2.2.2.1, r1.2.2.2.2.2.2.1, r1.2.2.2.2.2.2.2.1, r1.2.2.2.2.2.2.2.2.1, r1.2.2.2.2.2.2.2.2.2)))
set_option maxHeartbeats 4000000 in
set_option maxRecDepth 100000 in
theorem s_H_create {l : Launch} {D : va_G} {dA : FieldType → ClassId} (htr : l.stackTraces = false) {li : Nat → Int32} {su : Int32} {ct : Int32} {lc : Int32} {ad : Nat → Int32} {ctb : Int32} {lcb : Int32} {adb : Nat → Int32} {fx : Int32} {us : Nat → Int32} {ln : Int32} {pt : Int32} {tx : Nat → Int32} {br : Nat → Int32} {rw : Nat → Int32} {on : Int32} {dd : Int32} {mw : Int32} {cu : Int32} {ty : Int32} {mh : Int32} {md : Int32} {dk : Nat → Int32} {op : Nat → Int32} {th : Int32} {sp : Int32} {mp : Int32} {mf : Int32} {ml : Nat → Int32} {ps : Nat → Int32} {nm : Nat → Int32} {mu : Nat → Int32} {ch : Nat → Int32} {wy : Nat → Int32} {nx : Nat → Int32} {ou : Nat → Int64} {g : am_WS} {x1 : Int32} {r : Int32 × am_WS × Int32 × Int32 × (Nat → Int32) × Int32 × Int32 × (Nat → Int32) × (Nat → Int32) × (Nat → Int32)} (hf : f_H_create g li su ct lc ad ln pt tx br rw x1 = some r) {o : am_O} (ho : .inl (some (.int r.1)) = o) :
    am_M (am_kk l D dA) y_L_create ws_L_create (am_hr 8) [.ref 0, .int x1] (hL g.1 g.2.1 g.2.2.1 li g.2.2.2.1 g.2.2.2.2.1 g.2.2.2.2.2.1 su g.2.2.2.2.2.2.1 g.2.2.2.2.2.2.2.1 g.2.2.2.2.2.2.2.2.1 g.2.2.2.2.2.2.2.2.2 ct lc ad ctb lcb adb fx us ln pt tx br rw on dd mw cu ty mh md dk op th sp mp mf ml ps nm mu ch wy nx ou) o (hL r.2.1.1 r.2.1.2.1 r.2.1.2.2.1 li r.2.1.2.2.2.1 r.2.1.2.2.2.2.1 r.2.1.2.2.2.2.2.1 su r.2.1.2.2.2.2.2.2.1 r.2.1.2.2.2.2.2.2.2.1 r.2.1.2.2.2.2.2.2.2.2.1 r.2.1.2.2.2.2.2.2.2.2.2 r.2.2.1 r.2.2.2.1 r.2.2.2.2.1 ctb lcb adb fx us r.2.2.2.2.2.1 r.2.2.2.2.2.2.1 r.2.2.2.2.2.2.2.1 r.2.2.2.2.2.2.2.2.1 r.2.2.2.2.2.2.2.2.2 on dd mw cu ty mh md dk op th sp mp mf ml ps nm mu ch wy nx ou) := by
  subst ho
  refine am_bodyW (by decide) rfl (Nat.le_of_ble_eq_true rfl) rfl ?_
  rw [f_H_create] at hf
  refine g_aload_n (n := 1) d_L_create_0 rfl 0 rfl rfl ?_
  refine g_iload_n (n := 2) d_L_create_1 rfl 1 rfl rfl ?_
  obtain ⟨r1, h1, hf⟩ := ob_bind hf
  rcases ob_t hf with ⟨E1, w1, hf⟩ | ⟨v1, w1, hf⟩
  · refine c_Vh [.int x1] [] d_L_create_2 (s_V_create htr h1 (by rw [w1]; rfl)) tw_301 tw_302 tw_303 tw_1 tw_304 hd_V_create ⟨by decide, by decide⟩ (ci := 6) rfl rfl rfl (Nat.le_of_ble_eq_true rfl) rfl ?_
    by_cases q0 : E1 = "java/lang/IllegalStateException"
    · have hf := ob_pos q0 hf
      subst q0
      cases hf
      refine g_catch (n := 9) (i := 2) [] ⟨0, 5, 8, 13⟩ [⟨0, 5, 11, 15⟩, ⟨0, 5, 14, 17⟩] rfl (by decide) (by decide) (List.mem_cons_of_mem _ tw_298) am_pre0 (Or.inl ⟨2, d_L_create_8, rfl, rfl⟩) (am_ltb rfl) ?_
      refine g_iconst (n := 10) (v := 1) d_L_create_9 rfl (by decide) ?_
      exact g_iret d_L_create_10 rfl (Nat.le_refl _) (Nat.le_refl _)
    · have hf := ob_neg q0 hf
      by_cases q1 : E1 = "java/lang/IllegalArgumentException"
      · have hf := ob_pos q1 hf
        subst q1
        cases hf
        refine g_catch (n := 12) (i := 2) [⟨0, 5, 8, 13⟩] ⟨0, 5, 11, 15⟩ [⟨0, 5, 14, 17⟩] rfl (by decide) (by decide) (List.mem_cons_of_mem _ tw_299) (am_preC (am_prow (by decide) (by decide) (List.mem_cons_of_mem _ tw_298) (List.mem_of_getElem? (i := 8) rfl)) am_pre0) (Or.inl ⟨2, d_L_create_11, rfl, rfl⟩) (am_ltb rfl) ?_
        refine g_iconst (n := 13) (v := 2) d_L_create_12 rfl (by decide) ?_
        exact g_iret d_L_create_13 rfl (Nat.le_refl _) (Nat.le_refl _)
      · have hf := ob_neg q1 hf
        by_cases q2 : E1 = "java/lang/UnsupportedOperationException"
        · have hf := ob_pos q2 hf
          subst q2
          cases hf
          refine g_catch (n := 15) (i := 2) [⟨0, 5, 8, 13⟩, ⟨0, 5, 11, 15⟩] ⟨0, 5, 14, 17⟩ [] rfl (by decide) (by decide) (List.mem_cons_of_mem _ tw_300) (am_preC (am_prow (by decide) (by decide) (List.mem_cons_of_mem _ tw_298) (List.mem_of_getElem? (i := 12) rfl)) (am_preC (am_prow (by decide) (by decide) (List.mem_cons_of_mem _ tw_299) (List.mem_of_getElem? (i := 13) rfl)) am_pre0)) (Or.inl ⟨2, d_L_create_14, rfl, rfl⟩) (am_ltb rfl) ?_
          refine g_iconst (n := 16) (v := 3) d_L_create_15 rfl (by decide) ?_
          exact g_iret d_L_create_16 rfl (Nat.le_refl _) (Nat.le_refl _)
        · have hf := ob_neg q2 hf
          cases hf
  · cases hf
    refine c_Vl (n := 5) (st' := []) [.int x1] [] d_L_create_2 rfl (s_V_create htr h1 (by rw [w1]; rfl)) tw_301 tw_302 tw_303 tw_1 tw_304 hd_V_create ⟨by decide, by decide⟩ (Nat.zero_le _) (Nat.zero_le _) (ci := 6) rfl rfl rfl (Nat.le_of_ble_eq_true rfl) rfl rfl ?_
    refine g_goto (n := 17) d_L_create_5 (by decide) ?_
    refine g_iconst (n := 18) (v := 0) d_L_create_17 rfl (by decide) ?_
    exact g_iret d_L_create_18 rfl (Nat.zero_le _) (Nat.zero_le _)
def f_H_delete (g : am_WS) (li : Nat → Int32) (su : Int32) (ct : Int32) (lc : Int32) (ad : Nat → Int32) (ctb : Int32) (lcb : Int32) (adb : Nat → Int32) (ln : Int32) (tx : Nat → Int32)  : Option (Int32 × am_WS × Int32 × Int32 × (Nat → Int32) × Int32 × Int32 × (Nat → Int32) × Int32 × (Nat → Int32)) :=
  ((f_V_delete g li su ct lc ad ctb lcb adb ln tx).bind fun r1 => am_t r1.1 (fun E1 => (if E1 = "java/lang/IllegalStateException" then some (1, r1.2.1, r1.2.2.1, r1.2.2.2.1, r1.2.2.2.2.1, r1.2.2.2.2.2.1, r1.2.2.2.2.2.2.1, r1.2.2.2.2.2.2.2.1, r1.2.2.2.2.2.2.2.2.1, r1.2.2.2.2.2.2.2.2.2) else (if E1 = "java/util/NoSuchElementException" then some (2, r1.2.1, r1.2.2.1, r1.2.2.2.1, r1.2.2.2.2.1, r1.2.2.2.2.2.1, r1.2.2.2.2.2.2.1, r1.2.2.2.2.2.2.2.1, r1.2.2.2.2.2.2.2.2.1, r1.2.2.2.2.2.2.2.2.2) else (if E1 = "java/lang/UnsupportedOperationException" then some (3, r1.2.1, r1.2.2.1, r1.2.2.2.1, r1.2.2.2.2.1, r1.2.2.2.2.2.1, r1.2.2.2.2.2.2.1, r1.2.2.2.2.2.2.2.1, r1.2.2.2.2.2.2.2.2.1, r1.2.2.2.2.2.2.2.2.2) else none)))) (fun _ => some (0, r1.2.1, r1.2.2.1, r1.2.2.2.1, r1.2.2.2.2.1, r1.2.2.2.2.2.1, r1.2.2.2.2.2.2.1, r1.2.2.2.2.2.2.2.1, r1.2.2.2.2.2.2.2.2.1, r1.2.2.2.2.2.2.2.2.2)))
set_option maxHeartbeats 4000000 in
set_option maxRecDepth 100000 in
theorem s_H_delete {l : Launch} {D : va_G} {dA : FieldType → ClassId} (htr : l.stackTraces = false) {li : Nat → Int32} {su : Int32} {ct : Int32} {lc : Int32} {ad : Nat → Int32} {ctb : Int32} {lcb : Int32} {adb : Nat → Int32} {fx : Int32} {us : Nat → Int32} {ln : Int32} {pt : Int32} {tx : Nat → Int32} {br : Nat → Int32} {rw : Nat → Int32} {on : Int32} {dd : Int32} {mw : Int32} {cu : Int32} {ty : Int32} {mh : Int32} {md : Int32} {dk : Nat → Int32} {op : Nat → Int32} {th : Int32} {sp : Int32} {mp : Int32} {mf : Int32} {ml : Nat → Int32} {ps : Nat → Int32} {nm : Nat → Int32} {mu : Nat → Int32} {ch : Nat → Int32} {wy : Nat → Int32} {nx : Nat → Int32} {ou : Nat → Int64} {g : am_WS}  {r : Int32 × am_WS × Int32 × Int32 × (Nat → Int32) × Int32 × Int32 × (Nat → Int32) × Int32 × (Nat → Int32)} (hf : f_H_delete g li su ct lc ad ctb lcb adb ln tx = some r) {o : am_O} (ho : .inl (some (.int r.1)) = o) :
    am_M (am_kk l D dA) y_L_delete ws_L_delete (am_hr 8) [.ref 0] (hL g.1 g.2.1 g.2.2.1 li g.2.2.2.1 g.2.2.2.2.1 g.2.2.2.2.2.1 su g.2.2.2.2.2.2.1 g.2.2.2.2.2.2.2.1 g.2.2.2.2.2.2.2.2.1 g.2.2.2.2.2.2.2.2.2 ct lc ad ctb lcb adb fx us ln pt tx br rw on dd mw cu ty mh md dk op th sp mp mf ml ps nm mu ch wy nx ou) o (hL r.2.1.1 r.2.1.2.1 r.2.1.2.2.1 li r.2.1.2.2.2.1 r.2.1.2.2.2.2.1 r.2.1.2.2.2.2.2.1 su r.2.1.2.2.2.2.2.2.1 r.2.1.2.2.2.2.2.2.2.1 r.2.1.2.2.2.2.2.2.2.2.1 r.2.1.2.2.2.2.2.2.2.2.2 r.2.2.1 r.2.2.2.1 r.2.2.2.2.1 r.2.2.2.2.2.1 r.2.2.2.2.2.2.1 r.2.2.2.2.2.2.2.1 fx us r.2.2.2.2.2.2.2.2.1 pt r.2.2.2.2.2.2.2.2.2 br rw on dd mw cu ty mh md dk op th sp mp mf ml ps nm mu ch wy nx ou) := by
  subst ho
  refine am_bodyW (by decide) rfl (Nat.le_of_ble_eq_true rfl) rfl ?_
  rw [f_H_delete] at hf
  refine g_aload_n (n := 1) d_L_delete_0 rfl 0 rfl rfl ?_
  obtain ⟨r1, h1, hf⟩ := ob_bind hf
  rcases ob_t hf with ⟨E1, w1, hf⟩ | ⟨v1, w1, hf⟩
  · refine c_Vh [] [] d_L_delete_1 (s_V_delete htr h1 (by rw [w1]; rfl)) tw_596 tw_597 tw_598 tw_1 tw_599 hd_V_delete ⟨by decide, by decide⟩ (ci := 6) rfl rfl rfl (Nat.le_of_ble_eq_true rfl) rfl ?_
    by_cases q0 : E1 = "java/lang/IllegalStateException"
    · have hf := ob_pos q0 hf
      subst q0
      cases hf
      refine g_catch (n := 8) (i := 1) [] ⟨0, 4, 7, 13⟩ [⟨0, 4, 10, 22⟩, ⟨0, 4, 13, 17⟩] rfl (by decide) (by decide) (List.mem_cons_of_mem _ tw_298) am_pre0 (Or.inl ⟨1, d_L_delete_7, rfl, rfl⟩) (am_ltb rfl) ?_
      refine g_iconst (n := 9) (v := 1) d_L_delete_8 rfl (by decide) ?_
      exact g_iret d_L_delete_9 rfl (Nat.le_refl _) (Nat.le_refl _)
    · have hf := ob_neg q0 hf
      by_cases q1 : E1 = "java/util/NoSuchElementException"
      · have hf := ob_pos q1 hf
        subst q1
        cases hf
        refine g_catch (n := 11) (i := 1) [⟨0, 4, 7, 13⟩] ⟨0, 4, 10, 22⟩ [⟨0, 4, 13, 17⟩] rfl (by decide) (by decide) (List.mem_cons_of_mem _ tw_595) (am_preC (am_prow (by decide) (by decide) (List.mem_cons_of_mem _ tw_298) (List.mem_of_getElem? (i := 16) rfl)) am_pre0) (Or.inl ⟨1, d_L_delete_10, rfl, rfl⟩) (am_ltb rfl) ?_
        refine g_iconst (n := 12) (v := 2) d_L_delete_11 rfl (by decide) ?_
        exact g_iret d_L_delete_12 rfl (Nat.le_refl _) (Nat.le_refl _)
      · have hf := ob_neg q1 hf
        by_cases q2 : E1 = "java/lang/UnsupportedOperationException"
        · have hf := ob_pos q2 hf
          subst q2
          cases hf
          refine g_catch (n := 14) (i := 1) [⟨0, 4, 7, 13⟩, ⟨0, 4, 10, 22⟩] ⟨0, 4, 13, 17⟩ [] rfl (by decide) (by decide) (List.mem_cons_of_mem _ tw_300) (am_preC (am_prow (by decide) (by decide) (List.mem_cons_of_mem _ tw_298) (List.mem_of_getElem? (i := 12) rfl)) (am_preC (am_prow (by decide) (by decide) (List.mem_cons_of_mem _ tw_595) (List.mem_of_getElem? (i := 14) rfl)) am_pre0)) (Or.inl ⟨1, d_L_delete_13, rfl, rfl⟩) (am_ltb rfl) ?_
          refine g_iconst (n := 15) (v := 3) d_L_delete_14 rfl (by decide) ?_
          exact g_iret d_L_delete_15 rfl (Nat.le_refl _) (Nat.le_refl _)
        · have hf := ob_neg q2 hf
          cases hf
  · cases hf
    refine c_Vl (n := 4) (st' := []) [] [] d_L_delete_1 rfl (s_V_delete htr h1 (by rw [w1]; rfl)) tw_596 tw_597 tw_598 tw_1 tw_599 hd_V_delete ⟨by decide, by decide⟩ (Nat.zero_le _) (Nat.zero_le _) (ci := 6) rfl rfl rfl (Nat.le_of_ble_eq_true rfl) rfl rfl ?_
    refine g_goto (n := 16) d_L_delete_4 (by decide) ?_
    refine g_iconst (n := 17) (v := 0) d_L_delete_16 rfl (by decide) ?_
    exact g_iret d_L_delete_17 rfl (Nat.zero_le _) (Nat.zero_le _)
def f_H_enter (ll : Int32) (he : Int32) (de : Int32) (li : Nat → Int32) (pw : Int32) (su : Int32) (bt : Nat → Int32) (ct : Int32) (lc : Int32) (ad : Nat → Int32) (ln : Int32) (tx : Nat → Int32)  : Option (Int32 × Int32 × Int32 × Int32 × Int32 × Int32 × (Nat → Int32) × Int32 × (Nat → Int32)) :=
  ((f_V_enter ll he de li pw su bt ct lc ad ln tx).bind fun r1 => am_t r1.1 (fun E1 => (if E1 = "java/lang/IllegalStateException" then some (1, r1.2.1, r1.2.2.1, r1.2.2.2.1, r1.2.2.2.2.1, r1.2.2.2.2.2.1, r1.2.2.2.2.2.2.1, r1.2.2.2.2.2.2.2.1, r1.2.2.2.2.2.2.2.2) else (if E1 = "java/util/NoSuchElementException" then some (2, r1.2.1, r1.2.2.1, r1.2.2.2.1, r1.2.2.2.2.1, r1.2.2.2.2.2.1, r1.2.2.2.2.2.2.1, r1.2.2.2.2.2.2.2.1, r1.2.2.2.2.2.2.2.2) else none))) (fun _ => some (0, r1.2.1, r1.2.2.1, r1.2.2.2.1, r1.2.2.2.2.1, r1.2.2.2.2.2.1, r1.2.2.2.2.2.2.1, r1.2.2.2.2.2.2.2.1, r1.2.2.2.2.2.2.2.2)))
set_option maxHeartbeats 4000000 in
set_option maxRecDepth 100000 in
theorem s_H_enter {l : Launch} {D : va_G} {dA : FieldType → ClassId} (htr : l.stackTraces = false) {ll : Int32} {he : Int32} {de : Int32} {li : Nat → Int32} {en : Nat → Int32} {po : Nat → Int32} {pw : Int32} {su : Int32} {wr : Int32} {cs : Int32} {wb : Int32} {bt : Nat → Int32} {ct : Int32} {lc : Int32} {ad : Nat → Int32} {ctb : Int32} {lcb : Int32} {adb : Nat → Int32} {fx : Int32} {us : Nat → Int32} {ln : Int32} {pt : Int32} {tx : Nat → Int32} {br : Nat → Int32} {rw : Nat → Int32} {on : Int32} {dd : Int32} {mw : Int32} {cu : Int32} {ty : Int32} {mh : Int32} {md : Int32} {dk : Nat → Int32} {op : Nat → Int32} {th : Int32} {sp : Int32} {mp : Int32} {mf : Int32} {ml : Nat → Int32} {ps : Nat → Int32} {nm : Nat → Int32} {mu : Nat → Int32} {ch : Nat → Int32} {wy : Nat → Int32} {nx : Nat → Int32} {ou : Nat → Int64}   {r : Int32 × Int32 × Int32 × Int32 × Int32 × Int32 × (Nat → Int32) × Int32 × (Nat → Int32)} (hf : f_H_enter ll he de li pw su bt ct lc ad ln tx = some r) {o : am_O} (ho : .inl (some (.int r.1)) = o) :
    am_M (am_kk l D dA) y_L_enter ws_L_enter (am_hr 8) [.ref 0] (hL ll he de li en po pw su wr cs wb bt ct lc ad ctb lcb adb fx us ln pt tx br rw on dd mw cu ty mh md dk op th sp mp mf ml ps nm mu ch wy nx ou) o (hL r.2.1 r.2.2.1 r.2.2.2.1 li en po pw su wr cs wb bt r.2.2.2.2.1 r.2.2.2.2.2.1 r.2.2.2.2.2.2.1 ctb lcb adb fx us r.2.2.2.2.2.2.2.1 pt r.2.2.2.2.2.2.2.2 br rw on dd mw cu ty mh md dk op th sp mp mf ml ps nm mu ch wy nx ou) := by
  subst ho
  refine am_bodyW (by decide) rfl (Nat.le_of_ble_eq_true rfl) rfl ?_
  rw [f_H_enter] at hf
  refine g_aload_n (n := 1) d_L_enter_0 rfl 0 rfl rfl ?_
  obtain ⟨r1, h1, hf⟩ := ob_bind hf
  rcases ob_t hf with ⟨E1, w1, hf⟩ | ⟨v1, w1, hf⟩
  · refine c_Vh [] [] d_L_enter_1 (s_V_enter htr h1 (by rw [w1]; rfl)) tw_656 tw_657 tw_658 tw_1 tw_659 hd_V_enter ⟨by decide, by decide⟩ (ci := 6) rfl rfl rfl (Nat.le_of_ble_eq_true rfl) rfl ?_
    by_cases q0 : E1 = "java/lang/IllegalStateException"
    · have hf := ob_pos q0 hf
      subst q0
      cases hf
      refine g_catch (n := 8) (i := 1) [] ⟨0, 4, 7, 13⟩ [⟨0, 4, 10, 22⟩] rfl (by decide) (by decide) (List.mem_cons_of_mem _ tw_298) am_pre0 (Or.inl ⟨1, d_L_enter_7, rfl, rfl⟩) (am_ltb rfl) ?_
      refine g_iconst (n := 9) (v := 1) d_L_enter_8 rfl (by decide) ?_
      exact g_iret d_L_enter_9 rfl (Nat.le_refl _) (Nat.le_refl _)
    · have hf := ob_neg q0 hf
      by_cases q1 : E1 = "java/util/NoSuchElementException"
      · have hf := ob_pos q1 hf
        subst q1
        cases hf
        refine g_catch (n := 11) (i := 1) [⟨0, 4, 7, 13⟩] ⟨0, 4, 10, 22⟩ [] rfl (by decide) (by decide) (List.mem_cons_of_mem _ tw_595) (am_preC (am_prow (by decide) (by decide) (List.mem_cons_of_mem _ tw_298) (List.mem_of_getElem? (i := 16) rfl)) am_pre0) (Or.inl ⟨1, d_L_enter_10, rfl, rfl⟩) (am_ltb rfl) ?_
        refine g_iconst (n := 12) (v := 2) d_L_enter_11 rfl (by decide) ?_
        exact g_iret d_L_enter_12 rfl (Nat.le_refl _) (Nat.le_refl _)
      · have hf := ob_neg q1 hf
        cases hf
  · cases hf
    refine c_Vl (n := 4) (st' := []) [] [] d_L_enter_1 rfl (s_V_enter htr h1 (by rw [w1]; rfl)) tw_656 tw_657 tw_658 tw_1 tw_659 hd_V_enter ⟨by decide, by decide⟩ (Nat.zero_le _) (Nat.zero_le _) (ci := 6) rfl rfl rfl (Nat.le_of_ble_eq_true rfl) rfl rfl ?_
    refine g_goto (n := 13) d_L_enter_4 (by decide) ?_
    refine g_iconst (n := 14) (v := 0) d_L_enter_13 rfl (by decide) ?_
    exact g_iret d_L_enter_14 rfl (Nat.zero_le _) (Nat.zero_le _)
def f_H_open (ll : Int32) (he : Int32) (li : Nat → Int32) (en : Nat → Int32) (po : Nat → Int32) (pw : Int32) (su : Int32) (bt : Nat → Int32) (ct : Int32) (lc : Int32) (ad : Nat → Int32) (ln : Int32) (tx : Nat → Int32) (ou : Nat → Int64)  : Option (Int32 × (Nat → Int64) × Int32 × (Nat → Int32) × (Nat → Int32) × Int32 × Int32 × (Nat → Int32) × Int32 × (Nat → Int32)) :=
  ((f_V_open ll he li en po pw su bt ct lc ad ln tx).bind fun r1 => am_t r1.1 (fun E1 => (if E1 = "java/lang/IllegalStateException" then some (1, ou, r1.2.1, r1.2.2.1, r1.2.2.2.1, r1.2.2.2.2.1, r1.2.2.2.2.2.1, r1.2.2.2.2.2.2.1, r1.2.2.2.2.2.2.2.1, r1.2.2.2.2.2.2.2.2) else (if E1 = "java/util/NoSuchElementException" then some (2, ou, r1.2.1, r1.2.2.1, r1.2.2.2.1, r1.2.2.2.2.1, r1.2.2.2.2.2.1, r1.2.2.2.2.2.2.1, r1.2.2.2.2.2.2.2.1, r1.2.2.2.2.2.2.2.2) else (if E1 = "java/lang/UnsupportedOperationException" then some (3, ou, r1.2.1, r1.2.2.1, r1.2.2.2.1, r1.2.2.2.2.1, r1.2.2.2.2.2.1, r1.2.2.2.2.2.2.1, r1.2.2.2.2.2.2.2.1, r1.2.2.2.2.2.2.2.2) else none)))) (fun v1 => some (0, (vp_updL ou (0 : Int32).toNatClampNeg v1.toInt64), r1.2.1, r1.2.2.1, r1.2.2.2.1, r1.2.2.2.2.1, r1.2.2.2.2.2.1, r1.2.2.2.2.2.2.1, r1.2.2.2.2.2.2.2.1, r1.2.2.2.2.2.2.2.2)))
set_option maxHeartbeats 4000000 in
set_option maxRecDepth 100000 in
theorem s_H_open {l : Launch} {D : va_G} {dA : FieldType → ClassId} (htr : l.stackTraces = false) {ll : Int32} {he : Int32} {de : Int32} {li : Nat → Int32} {en : Nat → Int32} {po : Nat → Int32} {pw : Int32} {su : Int32} {wr : Int32} {cs : Int32} {wb : Int32} {bt : Nat → Int32} {ct : Int32} {lc : Int32} {ad : Nat → Int32} {ctb : Int32} {lcb : Int32} {adb : Nat → Int32} {fx : Int32} {us : Nat → Int32} {ln : Int32} {pt : Int32} {tx : Nat → Int32} {br : Nat → Int32} {rw : Nat → Int32} {on : Int32} {dd : Int32} {mw : Int32} {cu : Int32} {ty : Int32} {mh : Int32} {md : Int32} {dk : Nat → Int32} {op : Nat → Int32} {th : Int32} {sp : Int32} {mp : Int32} {mf : Int32} {ml : Nat → Int32} {ps : Nat → Int32} {nm : Nat → Int32} {mu : Nat → Int32} {ch : Nat → Int32} {wy : Nat → Int32} {nx : Nat → Int32} {ou : Nat → Int64}   {r : Int32 × (Nat → Int64) × Int32 × (Nat → Int32) × (Nat → Int32) × Int32 × Int32 × (Nat → Int32) × Int32 × (Nat → Int32)} (hf : f_H_open ll he li en po pw su bt ct lc ad ln tx ou = some r) {o : am_O} (ho : .inl (some (.int r.1)) = o) :
    am_M (am_kk l D dA) y_L_open ws_L_open (am_hr 8) [.ref 0, .ref 28] (hL ll he de li en po pw su wr cs wb bt ct lc ad ctb lcb adb fx us ln pt tx br rw on dd mw cu ty mh md dk op th sp mp mf ml ps nm mu ch wy nx ou) o (hL r.2.2.1 he de li r.2.2.2.1 r.2.2.2.2.1 pw su wr cs wb bt r.2.2.2.2.2.1 r.2.2.2.2.2.2.1 r.2.2.2.2.2.2.2.1 ctb lcb adb fx us r.2.2.2.2.2.2.2.2.1 pt r.2.2.2.2.2.2.2.2.2 br rw on dd mw cu ty mh md dk op th sp mp mf ml ps nm mu ch wy nx r.2.1) := by
  subst ho
  refine am_bodyW (by decide) rfl (Nat.le_of_ble_eq_true rfl) rfl ?_
  rw [f_H_open] at hf
  refine g_aload_n (n := 1) d_L_open_0 rfl 1 rfl rfl ?_
  refine g_iconst (n := 2) (v := 0) d_L_open_1 rfl (by decide) ?_
  refine g_aload_n (n := 3) d_L_open_2 rfl 0 rfl rfl ?_
  obtain ⟨r1, h1, hf⟩ := ob_bind hf
  rcases ob_t hf with ⟨E1, w1, hf⟩ | ⟨v1, w1, hf⟩
  · refine c_Vh [] [.int 0, .ref 28] d_L_open_3 (s_V_open htr h1 (by rw [w1]; rfl)) tw_672 tw_673 tw_674 tw_1 tw_675 hd_V_open ⟨by decide, by decide⟩ (ci := 6) rfl rfl rfl (Nat.le_of_ble_eq_true rfl) rfl ?_
    by_cases q0 : E1 = "java/lang/IllegalStateException"
    · have hf := ob_pos q0 hf
      subst q0
      cases hf
      refine g_catch (n := 12) (i := 2) [] ⟨0, 8, 11, 13⟩ [⟨0, 8, 14, 22⟩, ⟨0, 8, 17, 17⟩] rfl (by decide) (by decide) (List.mem_cons_of_mem _ tw_298) am_pre0 (Or.inl ⟨2, d_L_open_11, rfl, rfl⟩) (am_ltb rfl) ?_
      refine g_iconst (n := 13) (v := 1) d_L_open_12 rfl (by decide) ?_
      exact g_iret d_L_open_13 rfl (Nat.le_refl _) (Nat.le_refl _)
    · have hf := ob_neg q0 hf
      by_cases q1 : E1 = "java/util/NoSuchElementException"
      · have hf := ob_pos q1 hf
        subst q1
        cases hf
        refine g_catch (n := 15) (i := 2) [⟨0, 8, 11, 13⟩] ⟨0, 8, 14, 22⟩ [⟨0, 8, 17, 17⟩] rfl (by decide) (by decide) (List.mem_cons_of_mem _ tw_595) (am_preC (am_prow (by decide) (by decide) (List.mem_cons_of_mem _ tw_298) (List.mem_of_getElem? (i := 16) rfl)) am_pre0) (Or.inl ⟨2, d_L_open_14, rfl, rfl⟩) (am_ltb rfl) ?_
        refine g_iconst (n := 16) (v := 2) d_L_open_15 rfl (by decide) ?_
        exact g_iret d_L_open_16 rfl (Nat.le_refl _) (Nat.le_refl _)
      · have hf := ob_neg q1 hf
        by_cases q2 : E1 = "java/lang/UnsupportedOperationException"
        · have hf := ob_pos q2 hf
          subst q2
          cases hf
          refine g_catch (n := 18) (i := 2) [⟨0, 8, 11, 13⟩, ⟨0, 8, 14, 22⟩] ⟨0, 8, 17, 17⟩ [] rfl (by decide) (by decide) (List.mem_cons_of_mem _ tw_300) (am_preC (am_prow (by decide) (by decide) (List.mem_cons_of_mem _ tw_298) (List.mem_of_getElem? (i := 12) rfl)) (am_preC (am_prow (by decide) (by decide) (List.mem_cons_of_mem _ tw_595) (List.mem_of_getElem? (i := 14) rfl)) am_pre0)) (Or.inl ⟨2, d_L_open_17, rfl, rfl⟩) (am_ltb rfl) ?_
          refine g_iconst (n := 19) (v := 3) d_L_open_18 rfl (by decide) ?_
          exact g_iret d_L_open_19 rfl (Nat.le_refl _) (Nat.le_refl _)
        · have hf := ob_neg q2 hf
          cases hf
  · cases hf
    refine c_Vl (n := 6) (st' := [.int v1, .int 0, .ref 28]) [] [.int 0, .ref 28] d_L_open_3 rfl (s_V_open htr h1 (by rw [w1]; rfl)) tw_672 tw_673 tw_674 tw_1 tw_675 hd_V_open ⟨by decide, by decide⟩ (Nat.zero_le _) (Nat.zero_le _) (ci := 6) rfl rfl rfl (Nat.le_of_ble_eq_true rfl) rfl rfl ?_
    refine g_i2l (n := 7) d_L_open_6 rfl ?_
    refine g_last (n := 8) (q0 := 28) (h' := (hL r1.2.1 he de li r1.2.2.1 r1.2.2.2.1 pw su wr cs wb bt r1.2.2.2.2.1 r1.2.2.2.2.2.1 r1.2.2.2.2.2.2.1 ctb lcb adb fx us r1.2.2.2.2.2.2.2.1 pt r1.2.2.2.2.2.2.2.2 br rw on dd mw cu ty mh md dk op th sp mp mf ml ps nm mu ch wy nx (vp_updL ou (0 : Int32).toNatClampNeg v1.toInt64))) d_L_open_7 rfl rfl (am_inl (by decide)) rfl ?_
    refine g_goto (n := 20) d_L_open_8 (by decide) ?_
    refine g_iconst (n := 21) (v := 0) d_L_open_20 rfl (by decide) ?_
    exact g_iret d_L_open_21 rfl (Nat.zero_le _) (Nat.zero_le _)
def f_H_read (en : Nat → Int32) (po : Nat → Int32) (pw : Int32) (su : Int32) (bt : Nat → Int32) (ou : Nat → Int64) (x1 : Int32) (x2 : Int32) : Option (Int32 × (Nat → Int64) × (Nat → Int32)) :=
  ((f_V_read en po pw su bt x1 x2).bind fun r1 => am_t r1.1 (fun E1 => (if E1 = "java/lang/IllegalStateException" then some (1, ou, r1.2) else (if E1 = "java/lang/IllegalArgumentException" then some (2, ou, r1.2) else none))) (fun v1 => some (0, (vp_updL ou (0 : Int32).toNatClampNeg v1), r1.2)))
set_option maxHeartbeats 4000000 in
set_option maxRecDepth 100000 in
theorem s_H_read {l : Launch} {D : va_G} {dA : FieldType → ClassId} (htr : l.stackTraces = false) {ll : Int32} {he : Int32} {de : Int32} {li : Nat → Int32} {en : Nat → Int32} {po : Nat → Int32} {pw : Int32} {su : Int32} {wr : Int32} {cs : Int32} {wb : Int32} {bt : Nat → Int32} {ct : Int32} {lc : Int32} {ad : Nat → Int32} {ctb : Int32} {lcb : Int32} {adb : Nat → Int32} {fx : Int32} {us : Nat → Int32} {ln : Int32} {pt : Int32} {tx : Nat → Int32} {br : Nat → Int32} {rw : Nat → Int32} {on : Int32} {dd : Int32} {mw : Int32} {cu : Int32} {ty : Int32} {mh : Int32} {md : Int32} {dk : Nat → Int32} {op : Nat → Int32} {th : Int32} {sp : Int32} {mp : Int32} {mf : Int32} {ml : Nat → Int32} {ps : Nat → Int32} {nm : Nat → Int32} {mu : Nat → Int32} {ch : Nat → Int32} {wy : Nat → Int32} {nx : Nat → Int32} {ou : Nat → Int64}  {x1 : Int32} {x2 : Int32} {r : Int32 × (Nat → Int64) × (Nat → Int32)} (hf : f_H_read en po pw su bt ou x1 x2 = some r) {o : am_O} (ho : .inl (some (.int r.1)) = o) :
    am_M (am_kk l D dA) y_L_read ws_L_read (am_hr 5) [.ref 0, .int x1, .int x2, .ref 28] (hL ll he de li en po pw su wr cs wb bt ct lc ad ctb lcb adb fx us ln pt tx br rw on dd mw cu ty mh md dk op th sp mp mf ml ps nm mu ch wy nx ou) o (hL ll he de li en r.2.2 pw su wr cs wb bt ct lc ad ctb lcb adb fx us ln pt tx br rw on dd mw cu ty mh md dk op th sp mp mf ml ps nm mu ch wy nx r.2.1) := by
  subst ho
  refine am_bodyW (by decide) rfl (Nat.le_of_ble_eq_true rfl) rfl ?_
  rw [f_H_read] at hf
  refine g_aload_n (n := 1) d_L_read_0 rfl 3 rfl rfl ?_
  refine g_iconst (n := 2) (v := 0) d_L_read_1 rfl (by decide) ?_
  refine g_aload_n (n := 3) d_L_read_2 rfl 0 rfl rfl ?_
  refine g_iload_n (n := 4) d_L_read_3 rfl 1 rfl rfl ?_
  refine g_iload_n (n := 5) d_L_read_4 rfl 2 rfl rfl ?_
  obtain ⟨r1, h1, hf⟩ := ob_bind hf
  rcases ob_t hf with ⟨E1, w1, hf⟩ | ⟨v1, w1, hf⟩
  · refine c_Vh [.int x1, .int x2] [.int 0, .ref 28] d_L_read_5 (s_V_read htr h1 (by rw [w1]; rfl)) tw_689 tw_690 tw_691 tw_1 tw_692 hd_V_read ⟨by decide, by decide⟩ (ci := 6) rfl rfl rfl (Nat.le_of_ble_eq_true rfl) rfl ?_
    by_cases q0 : E1 = "java/lang/IllegalStateException"
    · have hf := ob_pos q0 hf
      subst q0
      cases hf
      refine g_catch (n := 14) (i := 4) [] ⟨0, 9, 12, 13⟩ [⟨0, 9, 16, 15⟩] rfl (by decide) (by decide) (List.mem_cons_of_mem _ tw_298) am_pre0 (Or.inr ⟨d_L_read_12, rfl⟩) (am_ltb rfl) ?_
      refine g_iconst (n := 15) (v := 1) d_L_read_14 rfl (by decide) ?_
      exact g_iret d_L_read_15 rfl (Nat.le_refl _) (Nat.le_refl _)
    · have hf := ob_neg q0 hf
      by_cases q1 : E1 = "java/lang/IllegalArgumentException"
      · have hf := ob_pos q1 hf
        subst q1
        cases hf
        refine g_catch (n := 18) (i := 4) [⟨0, 9, 12, 13⟩] ⟨0, 9, 16, 15⟩ [] rfl (by decide) (by decide) (List.mem_cons_of_mem _ tw_299) (am_preC (am_prow (by decide) (by decide) (List.mem_cons_of_mem _ tw_298) (List.mem_of_getElem? (i := 8) rfl)) am_pre0) (Or.inr ⟨d_L_read_16, rfl⟩) (am_ltb rfl) ?_
        refine g_iconst (n := 19) (v := 2) d_L_read_18 rfl (by decide) ?_
        exact g_iret d_L_read_19 rfl (Nat.le_refl _) (Nat.le_refl _)
      · have hf := ob_neg q1 hf
        cases hf
  · cases hf
    refine c_Vl (n := 8) (st' := [.long v1, .int 0, .ref 28]) [.int x1, .int x2] [.int 0, .ref 28] d_L_read_5 rfl (s_V_read htr h1 (by rw [w1]; rfl)) tw_689 tw_690 tw_691 tw_1 tw_692 hd_V_read ⟨by decide, by decide⟩ (Nat.zero_le _) (Nat.zero_le _) (ci := 6) rfl rfl rfl (Nat.le_of_ble_eq_true rfl) rfl rfl ?_
    refine g_last (n := 9) (q0 := 28) (h' := (hL ll he de li en r1.2 pw su wr cs wb bt ct lc ad ctb lcb adb fx us ln pt tx br rw on dd mw cu ty mh md dk op th sp mp mf ml ps nm mu ch wy nx (vp_updL ou (0 : Int32).toNatClampNeg v1))) d_L_read_8 rfl rfl (am_inl (by decide)) rfl ?_
    refine g_goto (n := 20) d_L_read_9 (by decide) ?_
    refine g_iconst (n := 21) (v := 0) d_L_read_20 rfl (by decide) ?_
    exact g_iret d_L_read_21 rfl (Nat.zero_le _) (Nat.zero_le _)
def f_H_write (g : am_WS) (su : Int32) (rw : Nat → Int32) (ou : Nat → Int64) (x1 : Int32) (x2 : Int64) (x4 : Int32) : Option (Int32 × (Nat → Int64) × am_WS × (Nat → Int32)) :=
  ((f_V_write g su rw x1 x2 x4).bind fun r1 => am_t r1.1 (fun E1 => (if E1 = "java/lang/IllegalStateException" then some (1, ou, r1.2.1, r1.2.2) else (if E1 = "java/lang/IllegalArgumentException" then some (2, ou, r1.2.1, r1.2.2) else (if E1 = "java/lang/UnsupportedOperationException" then some (3, ou, r1.2.1, r1.2.2) else none)))) (fun v1 => some (0, (vp_updL ou (0 : Int32).toNatClampNeg v1.toInt64), r1.2.1, r1.2.2)))
set_option maxHeartbeats 4000000 in
set_option maxRecDepth 100000 in
theorem s_H_write {l : Launch} {D : va_G} {dA : FieldType → ClassId} (htr : l.stackTraces = false) {li : Nat → Int32} {su : Int32} {ct : Int32} {lc : Int32} {ad : Nat → Int32} {ctb : Int32} {lcb : Int32} {adb : Nat → Int32} {fx : Int32} {us : Nat → Int32} {ln : Int32} {pt : Int32} {tx : Nat → Int32} {br : Nat → Int32} {rw : Nat → Int32} {on : Int32} {dd : Int32} {mw : Int32} {cu : Int32} {ty : Int32} {mh : Int32} {md : Int32} {dk : Nat → Int32} {op : Nat → Int32} {th : Int32} {sp : Int32} {mp : Int32} {mf : Int32} {ml : Nat → Int32} {ps : Nat → Int32} {nm : Nat → Int32} {mu : Nat → Int32} {ch : Nat → Int32} {wy : Nat → Int32} {nx : Nat → Int32} {ou : Nat → Int64} {g : am_WS} {x1 : Int32} {x2 : Int64} {x4 : Int32} {r : Int32 × (Nat → Int64) × am_WS × (Nat → Int32)} (hf : f_H_write g su rw ou x1 x2 x4 = some r) {o : am_O} (ho : .inl (some (.int r.1)) = o) :
    am_M (am_kk l D dA) y_L_write ws_L_write (am_hr 7) [.ref 0, .int x1, .long x2, .int x4, .ref 28] (hL g.1 g.2.1 g.2.2.1 li g.2.2.2.1 g.2.2.2.2.1 g.2.2.2.2.2.1 su g.2.2.2.2.2.2.1 g.2.2.2.2.2.2.2.1 g.2.2.2.2.2.2.2.2.1 g.2.2.2.2.2.2.2.2.2 ct lc ad ctb lcb adb fx us ln pt tx br rw on dd mw cu ty mh md dk op th sp mp mf ml ps nm mu ch wy nx ou) o (hL r.2.2.1.1 r.2.2.1.2.1 r.2.2.1.2.2.1 li r.2.2.1.2.2.2.1 r.2.2.1.2.2.2.2.1 r.2.2.1.2.2.2.2.2.1 su r.2.2.1.2.2.2.2.2.2.1 r.2.2.1.2.2.2.2.2.2.2.1 r.2.2.1.2.2.2.2.2.2.2.2.1 r.2.2.1.2.2.2.2.2.2.2.2.2 ct lc ad ctb lcb adb fx us ln pt tx br r.2.2.2 on dd mw cu ty mh md dk op th sp mp mf ml ps nm mu ch wy nx r.2.1) := by
  subst ho
  refine am_bodyW (by decide) rfl (Nat.le_of_ble_eq_true rfl) rfl ?_
  rw [f_H_write] at hf
  refine g_aload (n := 2) d_L_write_0 rfl 4 rfl ?_
  refine g_iconst (n := 3) (v := 0) d_L_write_2 rfl (by decide) ?_
  refine g_aload_n (n := 4) d_L_write_3 rfl 0 rfl rfl ?_
  refine g_iload_n (n := 5) d_L_write_4 rfl 1 rfl rfl ?_
  refine g_lload_n (n := 6) d_L_write_5 rfl 2 rfl rfl ?_
  refine g_iload (n := 8) d_L_write_6 rfl 3 rfl ?_
  obtain ⟨r1, h1, hf⟩ := ob_bind hf
  rcases ob_t hf with ⟨E1, w1, hf⟩ | ⟨v1, w1, hf⟩
  · refine c_Vh [.int x1, .long x2, .int x4] [.int 0, .ref 28] d_L_write_8 (s_V_write htr h1 (by rw [w1]; rfl)) tw_709 tw_710 tw_711 tw_1 tw_712 hd_V_write ⟨by decide, by decide⟩ (ci := 6) rfl rfl rfl (Nat.le_of_ble_eq_true rfl) rfl ?_
    by_cases q0 : E1 = "java/lang/IllegalStateException"
    · have hf := ob_pos q0 hf
      subst q0
      cases hf
      refine g_catch (n := 18) (i := 6) [] ⟨0, 13, 16, 13⟩ [⟨0, 13, 20, 15⟩, ⟨0, 13, 24, 17⟩] rfl (by decide) (by decide) (List.mem_cons_of_mem _ tw_298) am_pre0 (Or.inr ⟨d_L_write_16, rfl⟩) (am_ltb rfl) ?_
      refine g_iconst (n := 19) (v := 1) d_L_write_18 rfl (by decide) ?_
      exact g_iret d_L_write_19 rfl (Nat.le_refl _) (Nat.le_refl _)
    · have hf := ob_neg q0 hf
      by_cases q1 : E1 = "java/lang/IllegalArgumentException"
      · have hf := ob_pos q1 hf
        subst q1
        cases hf
        refine g_catch (n := 22) (i := 6) [⟨0, 13, 16, 13⟩] ⟨0, 13, 20, 15⟩ [⟨0, 13, 24, 17⟩] rfl (by decide) (by decide) (List.mem_cons_of_mem _ tw_299) (am_preC (am_prow (by decide) (by decide) (List.mem_cons_of_mem _ tw_298) (List.mem_of_getElem? (i := 8) rfl)) am_pre0) (Or.inr ⟨d_L_write_20, rfl⟩) (am_ltb rfl) ?_
        refine g_iconst (n := 23) (v := 2) d_L_write_22 rfl (by decide) ?_
        exact g_iret d_L_write_23 rfl (Nat.le_refl _) (Nat.le_refl _)
      · have hf := ob_neg q1 hf
        by_cases q2 : E1 = "java/lang/UnsupportedOperationException"
        · have hf := ob_pos q2 hf
          subst q2
          cases hf
          refine g_catch (n := 26) (i := 6) [⟨0, 13, 16, 13⟩, ⟨0, 13, 20, 15⟩] ⟨0, 13, 24, 17⟩ [] rfl (by decide) (by decide) (List.mem_cons_of_mem _ tw_300) (am_preC (am_prow (by decide) (by decide) (List.mem_cons_of_mem _ tw_298) (List.mem_of_getElem? (i := 12) rfl)) (am_preC (am_prow (by decide) (by decide) (List.mem_cons_of_mem _ tw_299) (List.mem_of_getElem? (i := 13) rfl)) am_pre0)) (Or.inr ⟨d_L_write_24, rfl⟩) (am_ltb rfl) ?_
          refine g_iconst (n := 27) (v := 3) d_L_write_26 rfl (by decide) ?_
          exact g_iret d_L_write_27 rfl (Nat.le_refl _) (Nat.le_refl _)
        · have hf := ob_neg q2 hf
          cases hf
  · cases hf
    refine c_Vl (n := 11) (st' := [.int v1, .int 0, .ref 28]) [.int x1, .long x2, .int x4] [.int 0, .ref 28] d_L_write_8 rfl (s_V_write htr h1 (by rw [w1]; rfl)) tw_709 tw_710 tw_711 tw_1 tw_712 hd_V_write ⟨by decide, by decide⟩ (Nat.zero_le _) (Nat.zero_le _) (ci := 6) rfl rfl rfl (Nat.le_of_ble_eq_true rfl) rfl rfl ?_
    refine g_i2l (n := 12) d_L_write_11 rfl ?_
    refine g_last (n := 13) (q0 := 28) (h' := (hL r1.2.1.1 r1.2.1.2.1 r1.2.1.2.2.1 li r1.2.1.2.2.2.1 r1.2.1.2.2.2.2.1 r1.2.1.2.2.2.2.2.1 su r1.2.1.2.2.2.2.2.2.1 r1.2.1.2.2.2.2.2.2.2.1 r1.2.1.2.2.2.2.2.2.2.2.1 r1.2.1.2.2.2.2.2.2.2.2.2 ct lc ad ctb lcb adb fx us ln pt tx br r1.2.2 on dd mw cu ty mh md dk op th sp mp mf ml ps nm mu ch wy nx (vp_updL ou (0 : Int32).toNatClampNeg v1.toInt64))) d_L_write_12 rfl rfl (am_inl (by decide)) rfl ?_
    refine g_goto (n := 28) d_L_write_13 (by decide) ?_
    refine g_iconst (n := 29) (v := 0) d_L_write_28 rfl (by decide) ?_
    exact g_iret d_L_write_29 rfl (Nat.zero_le _) (Nat.zero_le _)
def f_H_list (he : Int32) (pw : Int32) (su : Int32) (bt : Nat → Int32) (ct : Int32) (lc : Int32) (ad : Nat → Int32) (ou : Nat → Int64) (x1 : Int32) (x2 : Int32) : Option (Int32 × (Nat → Int64) × Int32 × Int32 × (Nat → Int32)) :=
  ((f_V_list he pw su bt ct lc ad x1 x2).bind fun r1 => am_t r1.1 (fun E1 => (if E1 = "java/lang/IllegalStateException" then some (1, ou, r1.2.1, r1.2.2.1, r1.2.2.2) else (if E1 = "java/util/NoSuchElementException" then some (2, ou, r1.2.1, r1.2.2.1, r1.2.2.2) else (if E1 = "java/lang/IndexOutOfBoundsException" then some (3, ou, r1.2.1, r1.2.2.1, r1.2.2.2) else none)))) (fun v1 => some (0, (vp_updL ou (0 : Int32).toNatClampNeg v1.toInt64), r1.2.1, r1.2.2.1, r1.2.2.2)))
set_option maxHeartbeats 4000000 in
set_option maxRecDepth 100000 in
theorem s_H_list {l : Launch} {D : va_G} {dA : FieldType → ClassId} (htr : l.stackTraces = false) {ll : Int32} {he : Int32} {de : Int32} {li : Nat → Int32} {en : Nat → Int32} {po : Nat → Int32} {pw : Int32} {su : Int32} {wr : Int32} {cs : Int32} {wb : Int32} {bt : Nat → Int32} {ct : Int32} {lc : Int32} {ad : Nat → Int32} {ctb : Int32} {lcb : Int32} {adb : Nat → Int32} {fx : Int32} {us : Nat → Int32} {ln : Int32} {pt : Int32} {tx : Nat → Int32} {br : Nat → Int32} {rw : Nat → Int32} {on : Int32} {dd : Int32} {mw : Int32} {cu : Int32} {ty : Int32} {mh : Int32} {md : Int32} {dk : Nat → Int32} {op : Nat → Int32} {th : Int32} {sp : Int32} {mp : Int32} {mf : Int32} {ml : Nat → Int32} {ps : Nat → Int32} {nm : Nat → Int32} {mu : Nat → Int32} {ch : Nat → Int32} {wy : Nat → Int32} {nx : Nat → Int32} {ou : Nat → Int64}  {x1 : Int32} {x2 : Int32} {r : Int32 × (Nat → Int64) × Int32 × Int32 × (Nat → Int32)} (hf : f_H_list he pw su bt ct lc ad ou x1 x2 = some r) {o : am_O} (ho : .inl (some (.int r.1)) = o) :
    am_M (am_kk l D dA) y_L_list ws_L_list (am_hr 6) [.ref 0, .int x1, .int x2, .ref 28] (hL ll he de li en po pw su wr cs wb bt ct lc ad ctb lcb adb fx us ln pt tx br rw on dd mw cu ty mh md dk op th sp mp mf ml ps nm mu ch wy nx ou) o (hL ll he de li en po pw su wr cs wb bt r.2.2.1 r.2.2.2.1 r.2.2.2.2 ctb lcb adb fx us ln pt tx br rw on dd mw cu ty mh md dk op th sp mp mf ml ps nm mu ch wy nx r.2.1) := by
  subst ho
  refine am_bodyW (by decide) rfl (Nat.le_of_ble_eq_true rfl) rfl ?_
  rw [f_H_list] at hf
  refine g_aload_n (n := 1) d_L_list_0 rfl 3 rfl rfl ?_
  refine g_iconst (n := 2) (v := 0) d_L_list_1 rfl (by decide) ?_
  refine g_aload_n (n := 3) d_L_list_2 rfl 0 rfl rfl ?_
  refine g_iload_n (n := 4) d_L_list_3 rfl 1 rfl rfl ?_
  refine g_iload_n (n := 5) d_L_list_4 rfl 2 rfl rfl ?_
  obtain ⟨r1, h1, hf⟩ := ob_bind hf
  rcases ob_t hf with ⟨E1, w1, hf⟩ | ⟨v1, w1, hf⟩
  · refine c_Vh [.int x1, .int x2] [.int 0, .ref 28] d_L_list_5 (s_V_list htr h1 (by rw [w1]; rfl)) tw_736 tw_737 tw_738 tw_1 tw_739 hd_V_list ⟨by decide, by decide⟩ (ci := 6) rfl rfl rfl (Nat.le_of_ble_eq_true rfl) rfl ?_
    by_cases q0 : E1 = "java/lang/IllegalStateException"
    · have hf := ob_pos q0 hf
      subst q0
      cases hf
      refine g_catch (n := 15) (i := 4) [] ⟨0, 10, 13, 13⟩ [⟨0, 10, 17, 22⟩, ⟨0, 10, 21, 43⟩] rfl (by decide) (by decide) (List.mem_cons_of_mem _ tw_298) am_pre0 (Or.inr ⟨d_L_list_13, rfl⟩) (am_ltb rfl) ?_
      refine g_iconst (n := 16) (v := 1) d_L_list_15 rfl (by decide) ?_
      exact g_iret d_L_list_16 rfl (Nat.le_refl _) (Nat.le_refl _)
    · have hf := ob_neg q0 hf
      by_cases q1 : E1 = "java/util/NoSuchElementException"
      · have hf := ob_pos q1 hf
        subst q1
        cases hf
        refine g_catch (n := 19) (i := 4) [⟨0, 10, 13, 13⟩] ⟨0, 10, 17, 22⟩ [⟨0, 10, 21, 43⟩] rfl (by decide) (by decide) (List.mem_cons_of_mem _ tw_595) (am_preC (am_prow (by decide) (by decide) (List.mem_cons_of_mem _ tw_298) (List.mem_of_getElem? (i := 16) rfl)) am_pre0) (Or.inr ⟨d_L_list_17, rfl⟩) (am_ltb rfl) ?_
        refine g_iconst (n := 20) (v := 2) d_L_list_19 rfl (by decide) ?_
        exact g_iret d_L_list_20 rfl (Nat.le_refl _) (Nat.le_refl _)
      · have hf := ob_neg q1 hf
        by_cases q2 : E1 = "java/lang/IndexOutOfBoundsException"
        · have hf := ob_pos q2 hf
          subst q2
          cases hf
          refine g_catch (n := 23) (i := 4) [⟨0, 10, 13, 13⟩, ⟨0, 10, 17, 22⟩] ⟨0, 10, 21, 43⟩ [] rfl (by decide) (by decide) (List.mem_cons_of_mem _ tw_735) (am_preC (am_prow (by decide) (by decide) (List.mem_cons_of_mem _ tw_298) (List.mem_of_getElem? (i := 20) rfl)) (am_preC (am_prow (by decide) (by decide) (List.mem_cons_of_mem _ tw_595) (List.mem_of_getElem? (i := 23) rfl)) am_pre0)) (Or.inr ⟨d_L_list_21, rfl⟩) (am_ltb rfl) ?_
          refine g_iconst (n := 24) (v := 3) d_L_list_23 rfl (by decide) ?_
          exact g_iret d_L_list_24 rfl (Nat.le_refl _) (Nat.le_refl _)
        · have hf := ob_neg q2 hf
          cases hf
  · cases hf
    refine c_Vl (n := 8) (st' := [.int v1, .int 0, .ref 28]) [.int x1, .int x2] [.int 0, .ref 28] d_L_list_5 rfl (s_V_list htr h1 (by rw [w1]; rfl)) tw_736 tw_737 tw_738 tw_1 tw_739 hd_V_list ⟨by decide, by decide⟩ (Nat.zero_le _) (Nat.zero_le _) (ci := 6) rfl rfl rfl (Nat.le_of_ble_eq_true rfl) rfl rfl ?_
    refine g_i2l (n := 9) d_L_list_8 rfl ?_
    refine g_last (n := 10) (q0 := 28) (h' := (hL ll he de li en po pw su wr cs wb bt r1.2.1 r1.2.2.1 r1.2.2.2 ctb lcb adb fx us ln pt tx br rw on dd mw cu ty mh md dk op th sp mp mf ml ps nm mu ch wy nx (vp_updL ou (0 : Int32).toNatClampNeg v1.toInt64))) d_L_list_9 rfl rfl (am_inl (by decide)) rfl ?_
    refine g_goto (n := 25) d_L_list_10 (by decide) ?_
    refine g_iconst (n := 26) (v := 0) d_L_list_25 rfl (by decide) ?_
    exact g_iret d_L_list_26 rfl (Nat.zero_le _) (Nat.zero_le _)
def f_H_repair (g : am_WS) (su : Int32) (ct : Int32) (lc : Int32) (ad : Nat → Int32) (fx : Int32) (us : Nat → Int32) (ou : Nat → Int64)  : Option (Int32 × (Nat → Int64) × am_WS × Int32 × Int32 × Int32 × (Nat → Int32) × Int32 × (Nat → Int32)) :=
  ((f_V_repair g su ct lc ad fx us).bind fun r1 => am_t r1.1 (fun E1 => (if E1 = "java/lang/IllegalStateException" then some (1, ou, r1.2.1, r1.2.2.1, r1.2.2.2.1, r1.2.2.2.2.1, r1.2.2.2.2.2.1, r1.2.2.2.2.2.2.1, r1.2.2.2.2.2.2.2) else none)) (fun v1 => some (0, (vp_updL ou (0 : Int32).toNatClampNeg v1.toInt64), r1.2.1, r1.2.2.1, r1.2.2.2.1, r1.2.2.2.2.1, r1.2.2.2.2.2.1, r1.2.2.2.2.2.2.1, r1.2.2.2.2.2.2.2)))
set_option maxHeartbeats 4000000 in
set_option maxRecDepth 100000 in
theorem s_H_repair {l : Launch} {D : va_G} {dA : FieldType → ClassId} (htr : l.stackTraces = false) {li : Nat → Int32} {su : Int32} {ct : Int32} {lc : Int32} {ad : Nat → Int32} {ctb : Int32} {lcb : Int32} {adb : Nat → Int32} {fx : Int32} {us : Nat → Int32} {ln : Int32} {pt : Int32} {tx : Nat → Int32} {br : Nat → Int32} {rw : Nat → Int32} {on : Int32} {dd : Int32} {mw : Int32} {cu : Int32} {ty : Int32} {mh : Int32} {md : Int32} {dk : Nat → Int32} {op : Nat → Int32} {th : Int32} {sp : Int32} {mp : Int32} {mf : Int32} {ml : Nat → Int32} {ps : Nat → Int32} {nm : Nat → Int32} {mu : Nat → Int32} {ch : Nat → Int32} {wy : Nat → Int32} {nx : Nat → Int32} {ou : Nat → Int64} {g : am_WS}  {r : Int32 × (Nat → Int64) × am_WS × Int32 × Int32 × Int32 × (Nat → Int32) × Int32 × (Nat → Int32)} (hf : f_H_repair g su ct lc ad fx us ou = some r) {o : am_O} (ho : .inl (some (.int r.1)) = o) :
    am_M (am_kk l D dA) y_L_repair ws_L_repair (am_hr 16) [.ref 0, .ref 28] (hL g.1 g.2.1 g.2.2.1 li g.2.2.2.1 g.2.2.2.2.1 g.2.2.2.2.2.1 su g.2.2.2.2.2.2.1 g.2.2.2.2.2.2.2.1 g.2.2.2.2.2.2.2.2.1 g.2.2.2.2.2.2.2.2.2 ct lc ad ctb lcb adb fx us ln pt tx br rw on dd mw cu ty mh md dk op th sp mp mf ml ps nm mu ch wy nx ou) o (hL r.2.2.1.1 r.2.2.1.2.1 r.2.2.1.2.2.1 li r.2.2.1.2.2.2.1 r.2.2.1.2.2.2.2.1 r.2.2.1.2.2.2.2.2.1 r.2.2.2.1 r.2.2.1.2.2.2.2.2.2.1 r.2.2.1.2.2.2.2.2.2.2.1 r.2.2.1.2.2.2.2.2.2.2.2.1 r.2.2.1.2.2.2.2.2.2.2.2.2 r.2.2.2.2.1 r.2.2.2.2.2.1 r.2.2.2.2.2.2.1 ctb lcb adb r.2.2.2.2.2.2.2.1 r.2.2.2.2.2.2.2.2 ln pt tx br rw on dd mw cu ty mh md dk op th sp mp mf ml ps nm mu ch wy nx r.2.1) := by
  subst ho
  refine am_bodyW (by decide) rfl (Nat.le_of_ble_eq_true rfl) rfl ?_
  rw [f_H_repair] at hf
  refine g_aload_n (n := 1) d_L_repair_0 rfl 1 rfl rfl ?_
  refine g_iconst (n := 2) (v := 0) d_L_repair_1 rfl (by decide) ?_
  refine g_aload_n (n := 3) d_L_repair_2 rfl 0 rfl rfl ?_
  obtain ⟨r1, h1, hf⟩ := ob_bind hf
  rcases ob_t hf with ⟨E1, w1, hf⟩ | ⟨v1, w1, hf⟩
  · refine c_Vh [] [.int 0, .ref 28] d_L_repair_3 (s_V_repair htr h1 (by rw [w1]; rfl)) tw_781 tw_782 tw_783 tw_1 tw_784 hd_V_repair ⟨by decide, by decide⟩ (ci := 6) rfl rfl rfl (Nat.le_of_ble_eq_true rfl) rfl ?_
    by_cases q0 : E1 = "java/lang/IllegalStateException"
    · have hf := ob_pos q0 hf
      subst q0
      cases hf
      refine g_catch (n := 12) (i := 2) [] ⟨0, 8, 11, 13⟩ [] rfl (by decide) (by decide) (List.mem_cons_of_mem _ tw_298) am_pre0 (Or.inl ⟨2, d_L_repair_11, rfl, rfl⟩) (am_ltb rfl) ?_
      refine g_iconst (n := 13) (v := 1) d_L_repair_12 rfl (by decide) ?_
      exact g_iret d_L_repair_13 rfl (Nat.le_refl _) (Nat.le_refl _)
    · have hf := ob_neg q0 hf
      cases hf
  · cases hf
    refine c_Vl (n := 6) (st' := [.int v1, .int 0, .ref 28]) [] [.int 0, .ref 28] d_L_repair_3 rfl (s_V_repair htr h1 (by rw [w1]; rfl)) tw_781 tw_782 tw_783 tw_1 tw_784 hd_V_repair ⟨by decide, by decide⟩ (Nat.zero_le _) (Nat.zero_le _) (ci := 6) rfl rfl rfl (Nat.le_of_ble_eq_true rfl) rfl rfl ?_
    refine g_i2l (n := 7) d_L_repair_6 rfl ?_
    refine g_last (n := 8) (q0 := 28) (h' := (hL r1.2.1.1 r1.2.1.2.1 r1.2.1.2.2.1 li r1.2.1.2.2.2.1 r1.2.1.2.2.2.2.1 r1.2.1.2.2.2.2.2.1 r1.2.2.1 r1.2.1.2.2.2.2.2.2.1 r1.2.1.2.2.2.2.2.2.2.1 r1.2.1.2.2.2.2.2.2.2.2.1 r1.2.1.2.2.2.2.2.2.2.2.2 r1.2.2.2.1 r1.2.2.2.2.1 r1.2.2.2.2.2.1 ctb lcb adb r1.2.2.2.2.2.2.1 r1.2.2.2.2.2.2.2 ln pt tx br rw on dd mw cu ty mh md dk op th sp mp mf ml ps nm mu ch wy nx (vp_updL ou (0 : Int32).toNatClampNeg v1.toInt64))) d_L_repair_7 rfl rfl (am_inl (by decide)) rfl ?_
    refine g_goto (n := 14) d_L_repair_8 (by decide) ?_
    refine g_iconst (n := 15) (v := 0) d_L_repair_14 rfl (by decide) ?_
    exact g_iret d_L_repair_15 rfl (Nat.zero_le _) (Nat.zero_le _)
def f_L_law_L23 (L9 : Nat) (xs9 : Nat → Int32) : Nat → am_WS → (Nat → Int32) → Int32 → Int32 → Int32 → (Nat → Int32) → Int32 → Int32 → (Nat → Int32) → Int32 → (Nat → Int32) → Int32 → Int32 → (Nat → Int32) → (Nat → Int32) → (Nat → Int32) → am_MS → Int32 → Int32 → Int32 → Int32 → (Nat → Int32) → (Nat → Int32) → (Nat → Int32) → (Nat → Int32) → (Nat → Int32) → (Nat → Int32) → (Nat → Int32) → (Nat → Int64) → Int32 → Option (Int32 × am_WS × (Nat → Int32) × Int32 × Int32 × Int32 × (Nat → Int32) × Int32 × Int32 × (Nat → Int32) × Int32 × (Nat → Int32) × Int32 × Int32 × (Nat → Int32) × (Nat → Int32) × (Nat → Int32) × am_MS × Int32 × Int32 × Int32 × Int32 × (Nat → Int32) × (Nat → Int32) × (Nat → Int32) × (Nat → Int32) × (Nat → Int32) × (Nat → Int32) × (Nat → Int32) × (Nat → Int64))
  | 0, _, _, _, _, _, _, _, _, _, _, _, _, _, _, _, _, _, _, _, _, _, _, _, _, _, _, _, _, _, _ => none
  | fuel + 1, g, li, su, ct, lc, ad, ctb, lcb, adb, fx, us, ln, pt, tx, br, rw, w, th, sp, mp, mf, ml, ps, nm, mu, ch, wy, nx, ou, x4 =>
  (if ((Int32.ofNat L9) - 5) < x4 then some (1, g, li, su, ct, lc, ad, ctb, lcb, adb, fx, us, ln, pt, tx, br, rw, w, th, sp, mp, mf, ml, ps, nm, mu, ch, wy, nx, ou) else (if am_in x4 L9 = true then (if ((xs9 x4.toNatClampNeg) &&& 15) = 0 then (if am_in (x4 + 1) L9 = true then ((f_V_type g.1 li (((xs9 (x4 + 1).toNatClampNeg).toUInt32 % 65536).toInt32)).bind fun r5 => (if am_in (x4 + 1) L9 = true then ((f_M_type w.2.2.2.2.1 th ml (((xs9 (x4 + 1).toNatClampNeg).toUInt32 % 65536).toInt32)).bind fun r8 => f_L_law_L23 L9 xs9 fuel (r5.2.1, g.2.1, g.2.2.1, g.2.2.2.1, g.2.2.2.2.1, g.2.2.2.2.2.1, g.2.2.2.2.2.2.1, g.2.2.2.2.2.2.2.1, g.2.2.2.2.2.2.2.2.1, g.2.2.2.2.2.2.2.2.2) r5.2.2 su ct lc ad ctb lcb adb fx us ln pt tx br rw (w.1, w.2.1, w.2.2.1, w.2.2.2.1, r8.2.1, w.2.2.2.2.2.1, w.2.2.2.2.2.2.1, w.2.2.2.2.2.2.2.1, w.2.2.2.2.2.2.2.2) r8.2.2.1 sp mp mf r8.2.2.2 ps nm mu ch wy nx ou (x4 + 5)) else none)) else none) else (if ((xs9 x4.toNatClampNeg) &&& 15) = 1 then (if am_in (x4 + 1) L9 = true then ((f_H_create g li su ct lc ad ln pt tx br rw (xs9 (x4 + 1).toNatClampNeg)).bind fun r12 => (if am_in (x4 + 1) L9 = true then ((f_M_create w th sp mp ml nm (xs9 (x4 + 1).toNatClampNeg)).bind fun r15 => f_L_law_L23 L9 xs9 fuel r12.2.1 li su r12.2.2.1 r12.2.2.2.1 r12.2.2.2.2.1 ctb lcb adb fx us r12.2.2.2.2.2.1 r12.2.2.2.2.2.2.1 r12.2.2.2.2.2.2.2.1 r12.2.2.2.2.2.2.2.2.1 r12.2.2.2.2.2.2.2.2.2 r15.1 r15.2.1 sp r15.2.2.1 mf ml ps r15.2.2.2 mu ch wy nx ou (x4 + 5)) else none)) else none) else (if ((xs9 x4.toNatClampNeg) &&& 15) = 2 then ((f_H_delete g li su ct lc ad ctb lcb adb ln tx).bind fun r18 => ((f_M_delete w th sp ml).bind fun r20 => f_L_law_L23 L9 xs9 fuel r18.2.1 li su r18.2.2.1 r18.2.2.2.1 r18.2.2.2.2.1 r18.2.2.2.2.2.1 r18.2.2.2.2.2.2.1 r18.2.2.2.2.2.2.2.1 fx us r18.2.2.2.2.2.2.2.2.1 pt r18.2.2.2.2.2.2.2.2.2 br rw r20.1 r20.2 sp mp mf ml ps nm mu ch wy nx ou (x4 + 5))) else (if ((xs9 x4.toNatClampNeg) &&& 15) = 3 then ((f_H_enter g.1 g.2.1 g.2.2.1 li g.2.2.2.2.2.1 su g.2.2.2.2.2.2.2.2.2 ct lc ad ln tx).bind fun r23 => ((f_M_enter w.1 w.2.1 w.2.2.2.2.1 w.2.2.2.2.2.1 w.2.2.2.2.2.2.1 w.2.2.2.2.2.2.2.1 th sp ml).bind fun r25 => f_L_law_L23 L9 xs9 fuel (r23.2.1, r23.2.2.1, r23.2.2.2.1, g.2.2.2.1, g.2.2.2.2.1, g.2.2.2.2.2.1, g.2.2.2.2.2.2.1, g.2.2.2.2.2.2.2.1, g.2.2.2.2.2.2.2.2.1, g.2.2.2.2.2.2.2.2.2) li su r23.2.2.2.2.1 r23.2.2.2.2.2.1 r23.2.2.2.2.2.2.1 ctb lcb adb fx us r23.2.2.2.2.2.2.2.1 pt r23.2.2.2.2.2.2.2.2 br rw (w.1, r25.1, w.2.2.1, w.2.2.2.1, r25.2.1, r25.2.2.1, r25.2.2.2.1, w.2.2.2.2.2.2.2.1, w.2.2.2.2.2.2.2.2) r25.2.2.2.2 sp mp mf ml ps nm mu ch wy nx ou (x4 + 5))) else (if ((xs9 x4.toNatClampNeg) &&& 15) = 4 then ((f_H_open g.1 g.2.1 li g.2.2.2.1 g.2.2.2.2.1 g.2.2.2.2.2.1 su g.2.2.2.2.2.2.2.2.2 ct lc ad ln tx ou).bind fun r28 => ((f_M_open w.1 w.2.1 w.2.2.2.2.1 w.2.2.2.2.2.1 w.2.2.2.2.2.2.2.1 w.2.2.2.2.2.2.2.2 th sp ml ps).bind fun r30 => f_L_law_L23 L9 xs9 fuel (r28.2.2.1, g.2.1, g.2.2.1, r28.2.2.2.1, r28.2.2.2.2.1, g.2.2.2.2.2.1, g.2.2.2.2.2.2.1, g.2.2.2.2.2.2.2.1, g.2.2.2.2.2.2.2.2.1, g.2.2.2.2.2.2.2.2.2) li su r28.2.2.2.2.2.1 r28.2.2.2.2.2.2.1 r28.2.2.2.2.2.2.2.1 ctb lcb adb fx us r28.2.2.2.2.2.2.2.2.1 pt r28.2.2.2.2.2.2.2.2.2 br rw (w.1, r30.2.1, w.2.2.1, w.2.2.2.1, r30.2.2.1, w.2.2.2.2.2.1, w.2.2.2.2.2.2.1, w.2.2.2.2.2.2.2.1, r30.2.2.2.1) r30.2.2.2.2.1 sp mp mf ml r30.2.2.2.2.2 nm mu ch wy nx r28.2.1 (x4 + 5))) else (if ((xs9 x4.toNatClampNeg) &&& 15) = 5 then (if am_in (x4 + 1) L9 = true then ((f_V_close g.2.2.2.1 (xs9 (x4 + 1).toNatClampNeg)).bind fun r34 => (if am_in (x4 + 1) L9 = true then ((f_M_close w.2.2.2.2.2.2.2.2 th (xs9 (x4 + 1).toNatClampNeg)).bind fun r37 => f_L_law_L23 L9 xs9 fuel (g.1, g.2.1, g.2.2.1, r34.2, g.2.2.2.2.1, g.2.2.2.2.2.1, g.2.2.2.2.2.2.1, g.2.2.2.2.2.2.2.1, g.2.2.2.2.2.2.2.2.1, g.2.2.2.2.2.2.2.2.2) li su ct lc ad ctb lcb adb fx us ln pt tx br rw (w.1, w.2.1, w.2.2.1, w.2.2.2.1, w.2.2.2.2.1, w.2.2.2.2.2.1, w.2.2.2.2.2.2.1, w.2.2.2.2.2.2.2.1, r37.2.1) r37.2.2 sp mp mf ml ps nm mu ch wy nx ou (x4 + 5)) else none)) else none) else (if ((xs9 x4.toNatClampNeg) &&& 15) = 6 then (if am_in (x4 + 1) L9 = true then (if am_in (x4 + 2) L9 = true then ((f_V_seek g.2.2.2.1 g.2.2.2.2.1 g.2.2.2.2.2.2.2.2.2 (xs9 (x4 + 1).toNatClampNeg) (xs9 (x4 + 2).toNatClampNeg)).bind fun r42 => (if am_in (x4 + 1) L9 = true then (if am_in (x4 + 2) L9 = true then ((f_M_seek w.2.2.2.2.2.2.2.1 w.2.2.2.2.2.2.2.2 th ps (xs9 (x4 + 1).toNatClampNeg) (xs9 (x4 + 2).toNatClampNeg)).bind fun r46 => f_L_law_L23 L9 xs9 fuel (g.1, g.2.1, g.2.2.1, g.2.2.2.1, r42.2, g.2.2.2.2.2.1, g.2.2.2.2.2.2.1, g.2.2.2.2.2.2.2.1, g.2.2.2.2.2.2.2.2.1, g.2.2.2.2.2.2.2.2.2) li su ct lc ad ctb lcb adb fx us ln pt tx br rw w r46.2.1 sp mp mf ml r46.2.2 nm mu ch wy nx ou (x4 + 5)) else none) else none)) else none) else none) else (if ((xs9 x4.toNatClampNeg) &&& 15) = 7 then (if am_in (x4 + 1) L9 = true then (if am_in (x4 + 2) L9 = true then ((f_H_read g.2.2.2.1 g.2.2.2.2.1 g.2.2.2.2.2.1 su g.2.2.2.2.2.2.2.2.2 ou (xs9 (x4 + 1).toNatClampNeg) (xs9 (x4 + 2).toNatClampNeg)).bind fun r51 => (if am_in (x4 + 1) L9 = true then (if am_in (x4 + 2) L9 = true then ((f_M_read w.1 w.2.1 w.2.2.2.2.2.2.2.1 w.2.2.2.2.2.2.2.2 th sp ps (xs9 (x4 + 1).toNatClampNeg) (xs9 (x4 + 2).toNatClampNeg)).bind fun r55 => f_L_law_L23 L9 xs9 fuel (g.1, g.2.1, g.2.2.1, g.2.2.2.1, r51.2.2, g.2.2.2.2.2.1, g.2.2.2.2.2.2.1, g.2.2.2.2.2.2.2.1, g.2.2.2.2.2.2.2.2.1, g.2.2.2.2.2.2.2.2.2) li su ct lc ad ctb lcb adb fx us ln pt tx br rw (w.1, r55.2.1, w.2.2.1, w.2.2.2.1, w.2.2.2.2.1, w.2.2.2.2.2.1, w.2.2.2.2.2.2.1, w.2.2.2.2.2.2.2.1, w.2.2.2.2.2.2.2.2) r55.2.2.1 sp mp mf ml r55.2.2.2 nm mu ch wy nx r51.2.1 (x4 + 5)) else none) else none)) else none) else none) else (if ((xs9 x4.toNatClampNeg) &&& 15) = 8 then (if am_in (x4 + 1) L9 = true then (if am_in (x4 + 2) L9 = true then (if am_in (x4 + 3) L9 = true then (if am_in (x4 + 4) L9 = true then ((f_H_write g su rw ou (xs9 (x4 + 1).toNatClampNeg) ((((xs9 (x4 + 2).toNatClampNeg).toInt64) <<< ((32 : Int32).toInt64 &&& 63)) ||| (((xs9 (x4 + 3).toNatClampNeg).toInt64) &&& 4294967295)) (xs9 (x4 + 4).toNatClampNeg)).bind fun r62 => (if am_in (x4 + 1) L9 = true then (if am_in (x4 + 2) L9 = true then (if am_in (x4 + 3) L9 = true then (if am_in (x4 + 4) L9 = true then ((f_M_write w th sp ps (xs9 (x4 + 1).toNatClampNeg) ((((xs9 (x4 + 2).toNatClampNeg).toInt64) <<< ((32 : Int32).toInt64 &&& 63)) ||| (((xs9 (x4 + 3).toNatClampNeg).toInt64) &&& 4294967295)) (xs9 (x4 + 4).toNatClampNeg)).bind fun r68 => f_L_law_L23 L9 xs9 fuel r62.2.2.1 li su ct lc ad ctb lcb adb fx us ln pt tx br r62.2.2.2 r68.2.1 r68.2.2.1 sp mp mf ml r68.2.2.2 nm mu ch wy nx r62.2.1 (x4 + 5)) else none) else none) else none) else none)) else none) else none) else none) else none) else (if ((xs9 x4.toNatClampNeg) &&& 15) = 9 then (if am_in (x4 + 1) L9 = true then (if am_in (x4 + 2) L9 = true then ((f_H_list g.2.1 g.2.2.2.2.2.1 su g.2.2.2.2.2.2.2.2.2 ct lc ad ou (xs9 (x4 + 1).toNatClampNeg) (xs9 (x4 + 2).toNatClampNeg)).bind fun r73 => (if am_in (x4 + 1) L9 = true then (if am_in (x4 + 2) L9 = true then ((f_M_list w.1 w.2.1 w.2.2.2.2.2.1 w.2.2.2.2.2.2.2.1 th sp (xs9 (x4 + 1).toNatClampNeg) (xs9 (x4 + 2).toNatClampNeg)).bind fun r77 => f_L_law_L23 L9 xs9 fuel g li su r73.2.2.1 r73.2.2.2.1 r73.2.2.2.2 ctb lcb adb fx us ln pt tx br rw (w.1, r77.2.1, w.2.2.1, w.2.2.2.1, w.2.2.2.2.1, w.2.2.2.2.2.1, w.2.2.2.2.2.2.1, w.2.2.2.2.2.2.2.1, w.2.2.2.2.2.2.2.2) r77.2.2 sp mp mf ml ps nm mu ch wy nx r73.2.1 (x4 + 5)) else none) else none)) else none) else none) else (if ((xs9 x4.toNatClampNeg) &&& 15) = 10 then (if am_in (x4 + 1) L9 = true then ((f_V_cut g.2.2.2.2.2.1 g.2.2.2.2.2.2.2.1 g.2.2.2.2.2.2.2.2.1 (xs9 (x4 + 1).toNatClampNeg)).bind fun r81 => (if am_in (x4 + 1) L9 = true then ((f_M_cut w.1 w.2.2.2.1 th (xs9 (x4 + 1).toNatClampNeg)).bind fun r84 => f_L_law_L23 L9 xs9 fuel (g.1, g.2.1, g.2.2.1, g.2.2.2.1, g.2.2.2.2.1, g.2.2.2.2.2.1, g.2.2.2.2.2.2.1, r81.2.1, r81.2.2, g.2.2.2.2.2.2.2.2.2) li su ct lc ad ctb lcb adb fx us ln pt tx br rw (w.1, w.2.1, w.2.2.1, r84.2.1, w.2.2.2.2.1, w.2.2.2.2.2.1, w.2.2.2.2.2.2.1, w.2.2.2.2.2.2.2.1, w.2.2.2.2.2.2.2.2) r84.2.2 sp mp mf ml ps nm mu ch wy nx ou (x4 + 5)) else none)) else none) else (if ((xs9 x4.toNatClampNeg) &&& 15) = 11 then ((f_V_power g.2.2.2.2.2.1).bind fun r87 => ((f_M_power w.1 th).bind fun r89 => f_L_law_L23 L9 xs9 fuel (g.1, g.2.1, g.2.2.1, g.2.2.2.1, g.2.2.2.2.1, r87.2, g.2.2.2.2.2.2.1, g.2.2.2.2.2.2.2.1, g.2.2.2.2.2.2.2.2.1, g.2.2.2.2.2.2.2.2.2) li su ct lc ad ctb lcb adb fx us ln pt tx br rw (r89.2.1, w.2.1, w.2.2.1, w.2.2.2.1, w.2.2.2.2.1, w.2.2.2.2.2.1, w.2.2.2.2.2.2.1, w.2.2.2.2.2.2.2.1, w.2.2.2.2.2.2.2.2) r89.2.2 sp mp mf ml ps nm mu ch wy nx ou (x4 + 5))) else (if ((xs9 x4.toNatClampNeg) &&& 15) = 12 then ((f_H_repair g su ct lc ad fx us ou).bind fun r92 => ((f_M_repair w th sp mf mu ch wy nx).bind fun r94 => f_L_law_L23 L9 xs9 fuel r92.2.2.1 li r92.2.2.2.1 r92.2.2.2.2.1 r92.2.2.2.2.2.1 r92.2.2.2.2.2.2.1 ctb lcb adb r92.2.2.2.2.2.2.2.1 r92.2.2.2.2.2.2.2.2 ln pt tx br rw r94.2.1 r94.2.2.1 r94.2.2.2.1 mp r94.2.2.2.2.1 ml ps nm r94.2.2.2.2.2.1 r94.2.2.2.2.2.2.1 r94.2.2.2.2.2.2.2.1 r94.2.2.2.2.2.2.2.2 r92.2.1 (x4 + 5))) else (if ((xs9 x4.toNatClampNeg) &&& 15) = 13 then (if am_in (x4 + 1) L9 = true then (if am_in (x4 + 2) L9 = true then ((f_V_octet g.2.2.2.2.2.2.2.2.2 (xs9 (x4 + 1).toNatClampNeg) (xs9 (x4 + 2).toNatClampNeg)).bind fun r99 => (if am_in (x4 + 1) L9 = true then (if am_in (x4 + 2) L9 = true then ((f_M_octet w.2.2.2.2.2.2.2.1 th (xs9 (x4 + 1).toNatClampNeg) (xs9 (x4 + 2).toNatClampNeg)).bind fun r103 => f_L_law_L23 L9 xs9 fuel g li su ct lc ad ctb lcb adb fx us ln pt tx br rw w r103.2 sp mp mf ml ps nm mu ch wy nx ou (x4 + 5)) else none) else none)) else none) else none) else (if ((xs9 x4.toNatClampNeg) &&& 15) = 14 then (if am_in (x4 + 1) L9 = true then (if am_in (x4 + 2) L9 = true then (if am_in (x4 + 3) L9 = true then ((f_V_poke g.2.1 g.2.2.1 g.2.2.2.1 g.2.2.2.2.1 su g.2.2.2.2.2.2.2.2.2 (xs9 (x4 + 1).toNatClampNeg) (xs9 (x4 + 2).toNatClampNeg) (xs9 (x4 + 3).toNatClampNeg)).bind fun r109 => (if am_in (x4 + 1) L9 = true then (if am_in (x4 + 2) L9 = true then (if am_in (x4 + 3) L9 = true then ((f_M_poke w.2.2.2.2.2.1 w.2.2.2.2.2.2.1 w.2.2.2.2.2.2.2.1 w.2.2.2.2.2.2.2.2 th sp (xs9 (x4 + 1).toNatClampNeg) (xs9 (x4 + 2).toNatClampNeg) (xs9 (x4 + 3).toNatClampNeg)).bind fun r114 => (if r109.1 = r114.1 then f_L_law_L23 L9 xs9 fuel (g.1, r109.2.1, r109.2.2.1, r109.2.2.2.1, r109.2.2.2.2.1, g.2.2.2.2.2.1, g.2.2.2.2.2.2.1, g.2.2.2.2.2.2.2.1, g.2.2.2.2.2.2.2.2.1, r109.2.2.2.2.2.2) li r109.2.2.2.2.2.1 ct lc ad ctb lcb adb fx us ln pt tx br rw (w.1, w.2.1, w.2.2.1, w.2.2.2.1, w.2.2.2.2.1, r114.2.1, r114.2.2.1, r114.2.2.2.1, r114.2.2.2.2.1) r114.2.2.2.2.2.1 r114.2.2.2.2.2.2 mp mf ml ps nm mu ch wy nx ou (x4 + 5) else some (0, (g.1, r109.2.1, r109.2.2.1, r109.2.2.2.1, r109.2.2.2.2.1, g.2.2.2.2.2.1, g.2.2.2.2.2.2.1, g.2.2.2.2.2.2.2.1, g.2.2.2.2.2.2.2.2.1, r109.2.2.2.2.2.2), li, r109.2.2.2.2.2.1, ct, lc, ad, ctb, lcb, adb, fx, us, ln, pt, tx, br, rw, (w.1, w.2.1, w.2.2.1, w.2.2.2.1, w.2.2.2.2.1, r114.2.1, r114.2.2.1, r114.2.2.2.1, r114.2.2.2.2.1), r114.2.2.2.2.2.1, r114.2.2.2.2.2.2, mp, mf, ml, ps, nm, mu, ch, wy, nx, ou))) else none) else none) else none)) else none) else none) else none) else (if ((xs9 x4.toNatClampNeg) &&& 15) = 15 then (if am_in (x4 + 1) L9 = true then ((f_V_look g.1 g.2.1 g.2.2.2.1 g.2.2.2.2.1 g.2.2.2.2.2.1 g.2.2.2.2.2.2.1 g.2.2.2.2.2.2.2.2.2 (xs9 (x4 + 1).toNatClampNeg)).bind fun r119 => (if am_in (x4 + 1) L9 = true then ((f_M_look w.1 w.2.2.1 w.2.2.2.2.1 w.2.2.2.2.2.1 w.2.2.2.2.2.2.2.1 w.2.2.2.2.2.2.2.2 th ps (xs9 (x4 + 1).toNatClampNeg)).bind fun r122 => f_L_law_L23 L9 xs9 fuel g li su ct lc ad ctb lcb adb fx us ln pt tx br rw w r122.2 sp mp mf ml ps nm mu ch wy nx ou (x4 + 5)) else none)) else none) else f_L_law_L23 L9 xs9 fuel g li su ct lc ad ctb lcb adb fx us ln pt tx br rw w th sp mp mf ml ps nm mu ch wy nx ou (x4 + 5))))))))))))))))) else none))
def ws_L : List Cond := .tt :: am_tw
set_option maxHeartbeats 8000000 in
set_option maxRecDepth 100000 in
theorem s_L_law_L23 {l : Launch} {D : va_G} {dA : FieldType → ClassId} (htr : l.stackTraces = false) {L9 : Nat} {xs9 : Nat → Int32} {nm9 : String} {tb9 : List ExceptionTableEntry}  : ∀ (fuel nc ns : Nat) (g : am_WS) (li : Nat → Int32) (su : Int32) (ct : Int32) (lc : Int32) (ad : Nat → Int32) (ctb : Int32) (lcb : Int32) (adb : Nat → Int32) (fx : Int32) (us : Nat → Int32) (ln : Int32) (pt : Int32) (tx : Nat → Int32) (br : Nat → Int32) (rw : Nat → Int32) (w : am_MS) (th : Int32) (sp : Int32) (mp : Int32) (mf : Int32) (ml : Nat → Int32) (ps : Nat → Int32) (nm : Nat → Int32) (mu : Nat → Int32) (ch : Nat → Int32) (wy : Nat → Int32) (nx : Nat → Int32) (ou : Nat → Int64) (x4 : Int32) (r : Int32 × am_WS × (Nat → Int32) × Int32 × Int32 × Int32 × (Nat → Int32) × Int32 × Int32 × (Nat → Int32) × Int32 × (Nat → Int32) × Int32 × Int32 × (Nat → Int32) × (Nat → Int32) × (Nat → Int32) × am_MS × Int32 × Int32 × Int32 × Int32 × (Nat → Int32) × (Nat → Int32) × (Nat → Int32) × (Nat → Int32) × (Nat → Int32) × (Nat → Int32) × (Nat → Int32) × (Nat → Int64)), nc + fuel ≤ room_1.cells → ns + 6 * fuel ≤ room_1.slots → f_L_law_L23 L9 xs9 fuel g li su ct lc ad ctb lcb adb fx us ln pt tx br rw w th sp mp mf ml ps nm mu ch wy nx ou x4 = some r → ∀ o : am_O, .inl (some (.int r.1)) = o →
    am_G (am_kk l D dA) (ws_L, "FileVolumeLaw", code, 8, some .boolean, nm9, tb9, room_1, some (L9, xs9)) o (hL r.2.1.1 r.2.1.2.1 r.2.1.2.2.1 r.2.2.1 r.2.1.2.2.2.1 r.2.1.2.2.2.2.1 r.2.1.2.2.2.2.2.1 r.2.2.2.1 r.2.1.2.2.2.2.2.2.1 r.2.1.2.2.2.2.2.2.2.1 r.2.1.2.2.2.2.2.2.2.2.1 r.2.1.2.2.2.2.2.2.2.2.2 r.2.2.2.2.1 r.2.2.2.2.2.1 r.2.2.2.2.2.2.1 r.2.2.2.2.2.2.2.1 r.2.2.2.2.2.2.2.2.1 r.2.2.2.2.2.2.2.2.2.1 r.2.2.2.2.2.2.2.2.2.2.1 r.2.2.2.2.2.2.2.2.2.2.2.1 r.2.2.2.2.2.2.2.2.2.2.2.2.1 r.2.2.2.2.2.2.2.2.2.2.2.2.2.1 r.2.2.2.2.2.2.2.2.2.2.2.2.2.2.1 r.2.2.2.2.2.2.2.2.2.2.2.2.2.2.2.1 r.2.2.2.2.2.2.2.2.2.2.2.2.2.2.2.2.1 r.2.2.2.2.2.2.2.2.2.2.2.2.2.2.2.2.2.1.1 r.2.2.2.2.2.2.2.2.2.2.2.2.2.2.2.2.2.1.2.1 r.2.2.2.2.2.2.2.2.2.2.2.2.2.2.2.2.2.1.2.2.1 r.2.2.2.2.2.2.2.2.2.2.2.2.2.2.2.2.2.1.2.2.2.1 r.2.2.2.2.2.2.2.2.2.2.2.2.2.2.2.2.2.1.2.2.2.2.1 r.2.2.2.2.2.2.2.2.2.2.2.2.2.2.2.2.2.1.2.2.2.2.2.1 r.2.2.2.2.2.2.2.2.2.2.2.2.2.2.2.2.2.1.2.2.2.2.2.2.1 r.2.2.2.2.2.2.2.2.2.2.2.2.2.2.2.2.2.1.2.2.2.2.2.2.2.1 r.2.2.2.2.2.2.2.2.2.2.2.2.2.2.2.2.2.1.2.2.2.2.2.2.2.2 r.2.2.2.2.2.2.2.2.2.2.2.2.2.2.2.2.2.2.1 r.2.2.2.2.2.2.2.2.2.2.2.2.2.2.2.2.2.2.2.1 r.2.2.2.2.2.2.2.2.2.2.2.2.2.2.2.2.2.2.2.2.1 r.2.2.2.2.2.2.2.2.2.2.2.2.2.2.2.2.2.2.2.2.2.1 r.2.2.2.2.2.2.2.2.2.2.2.2.2.2.2.2.2.2.2.2.2.2.1 r.2.2.2.2.2.2.2.2.2.2.2.2.2.2.2.2.2.2.2.2.2.2.2.1 r.2.2.2.2.2.2.2.2.2.2.2.2.2.2.2.2.2.2.2.2.2.2.2.2.1 r.2.2.2.2.2.2.2.2.2.2.2.2.2.2.2.2.2.2.2.2.2.2.2.2.2.1 r.2.2.2.2.2.2.2.2.2.2.2.2.2.2.2.2.2.2.2.2.2.2.2.2.2.2.1 r.2.2.2.2.2.2.2.2.2.2.2.2.2.2.2.2.2.2.2.2.2.2.2.2.2.2.2.1 r.2.2.2.2.2.2.2.2.2.2.2.2.2.2.2.2.2.2.2.2.2.2.2.2.2.2.2.2.1 r.2.2.2.2.2.2.2.2.2.2.2.2.2.2.2.2.2.2.2.2.2.2.2.2.2.2.2.2.2) nc ns 23 [(0, .ref 99), (1, .ref 0), (2, .ref 18), (3, .ref 28), (4, .int x4)] [] (hL g.1 g.2.1 g.2.2.1 li g.2.2.2.1 g.2.2.2.2.1 g.2.2.2.2.2.1 su g.2.2.2.2.2.2.1 g.2.2.2.2.2.2.2.1 g.2.2.2.2.2.2.2.2.1 g.2.2.2.2.2.2.2.2.2 ct lc ad ctb lcb adb fx us ln pt tx br rw w.1 w.2.1 w.2.2.1 w.2.2.2.1 w.2.2.2.2.1 w.2.2.2.2.2.1 w.2.2.2.2.2.2.1 w.2.2.2.2.2.2.2.1 w.2.2.2.2.2.2.2.2 th sp mp mf ml ps nm mu ch wy nx ou) := by
  intro fuel
  induction fuel with
  | zero =>
    intro nc ns g li su ct lc ad ctb lcb adb fx us ln pt tx br rw w th sp mp mf ml ps nm mu ch wy nx ou x4 r hq hq2 hf
    cases hf
  | succ fuel ih =>
    intro nc ns g li su ct lc ad ctb lcb adb fx us ln pt tx br rw w th sp mp mf ml ps nm mu ch wy nx ou x4 r hq hq2 hf o ho
    subst ho
    rw [f_L_law_L23] at hf
    refine g_iload (n := 25) d_L_law_23 rfl 4 rfl ?_
    refine g_aload_n (n := 26) d_L_law_25 rfl 0 rfl rfl ?_
    refine g_slen (n := 27) d_L_law_26 rfl rfl (Nat.le_of_ble_eq_true rfl) ?_
    refine g_iconst (n := 28) (v := 5) d_L_law_27 rfl (by decide) ?_
    refine g_isub (n := 29) d_L_law_28 rfl ?_
    refine g_icmp_gt (n := 32) (tgt := 607) d_L_law_29 rfl (by decide) (fun q1 => ?_) (fun q1 => ?_)
    · have hf := ob_pos q1 hf
      refine g_iconst (n := 608) (v := 1) d_L_law_607 rfl (by decide) ?_
      cases hf
      exact g_zret d_L_law_608 rfl am_z1 (Nat.le_trans (by omega : nc ≤ nc + (fuel + 1)) hq) (Nat.le_trans (by omega : ns ≤ ns + 6 * (fuel + 1)) hq2)
    · have hf := ob_neg q1 hf
      refine g_aload_n (n := 33) d_L_law_32 rfl 0 rfl rfl ?_
      refine g_iload (n := 35) d_L_law_33 rfl 4 rfl ?_
      obtain ⟨b2, hf⟩ := ob_chk hf
      refine g_sld (n := 36) d_L_law_35 rfl rfl (am_inl b2) (Nat.le_of_ble_eq_true rfl) ?_
      refine g_bipush (n := 38) (v := 15) d_L_law_36 rfl (by decide) ?_
      refine g_iand (n := 39) d_L_law_38 rfl ?_
      by_cases q3 : ((xs9 x4.toNatClampNeg) &&& 15) = 0
      · have hf := ob_pos q3 hf
        refine g_tabIn (n := 116) d_L_law_39 (by rw [q3]; decide) (by rw [q3]; decide) (by rw [q3]; rfl) (by decide) ?_
        refine g_aload_n (n := 117) d_L_law_116 rfl 1 rfl rfl ?_
        refine g_aload_n (n := 118) d_L_law_117 rfl 0 rfl rfl ?_
        refine g_iload (n := 120) d_L_law_118 rfl 4 rfl ?_
        refine g_iconst (n := 121) (v := 1) d_L_law_120 rfl (by decide) ?_
        refine g_iadd (n := 122) d_L_law_121 rfl ?_
        obtain ⟨b4, hf⟩ := ob_chk hf
        refine g_sld (n := 123) d_L_law_122 rfl rfl (am_inl b4) (Nat.le_of_ble_eq_true rfl) ?_
        refine g_i2c (n := 124) d_L_law_123 rfl ?_
        obtain ⟨r5, h6, hf⟩ := ob_bind hf
        refine c_Vl (n := 127) (st' := [.int r5.1]) [.int (((xs9 (x4 + 1).toNatClampNeg).toUInt32 % 65536).toInt32)] [] d_L_law_124 rfl (s_V_type htr h6 rfl) tw_198 tw_199 tw_200 tw_1 tw_201 hd_V_type ⟨Nat.le_of_ble_eq_true rfl, Nat.le_of_ble_eq_true rfl⟩ (Nat.le_trans (by omega : nc ≤ nc + (fuel + 1)) hq) (Nat.le_trans (by omega : ns ≤ ns + 6 * (fuel + 1)) hq2) (ci := 6) rfl rfl rfl (Nat.le_of_ble_eq_true rfl) rfl rfl ?_
        refine g_pop (n := 128) d_L_law_127 rfl rfl ?_
        refine g_aload_n (n := 129) d_L_law_128 rfl 2 rfl rfl ?_
        refine g_aload_n (n := 130) d_L_law_129 rfl 0 rfl rfl ?_
        refine g_iload (n := 132) d_L_law_130 rfl 4 rfl ?_
        refine g_iconst (n := 133) (v := 1) d_L_law_132 rfl (by decide) ?_
        refine g_iadd (n := 134) d_L_law_133 rfl ?_
        obtain ⟨b7, hf⟩ := ob_chk hf
        refine g_sld (n := 135) d_L_law_134 rfl rfl (am_inl b7) (Nat.le_of_ble_eq_true rfl) ?_
        refine g_i2c (n := 136) d_L_law_135 rfl ?_
        obtain ⟨r8, h9, hf⟩ := ob_bind hf
        refine c_Vl (n := 139) (st' := [.int r8.1]) [.int (((xs9 (x4 + 1).toNatClampNeg).toUInt32 % 65536).toInt32)] [] d_L_law_136 rfl (t_M_type htr h9 rfl) tw_926 tw_927 tw_928 tw_8 tw_929 hd_M_type ⟨Nat.le_of_ble_eq_true rfl, Nat.le_of_ble_eq_true rfl⟩ (Nat.le_trans (by omega : nc ≤ nc + (fuel + 1)) hq) (Nat.le_trans (by omega : ns ≤ ns + 6 * (fuel + 1)) hq2) (ci := 7) rfl rfl rfl (Nat.le_of_ble_eq_true rfl) rfl rfl ?_
        refine g_pop (n := 140) d_L_law_139 rfl rfl ?_
        refine g_goto (n := 601) d_L_law_140 (by decide) ?_
        refine g_iinc (n := 604) (v := (x4 + 5)) (ls' := [(4, .int (x4 + 5)), (0, .ref 99), (1, .ref 0), (2, .ref 18), (3, .ref 28)]) d_L_law_601 rfl 4 rfl rfl (am_ltb rfl) rfl ?_
        refine g_goto (n := 23) d_L_law_604 (by decide) ?_
        refine g_ls [1, 2, 3, 4, 0] rfl ?_
        exact ih nc ns (r5.2.1, g.2.1, g.2.2.1, g.2.2.2.1, g.2.2.2.2.1, g.2.2.2.2.2.1, g.2.2.2.2.2.2.1, g.2.2.2.2.2.2.2.1, g.2.2.2.2.2.2.2.2.1, g.2.2.2.2.2.2.2.2.2) r5.2.2 su ct lc ad ctb lcb adb fx us ln pt tx br rw (w.1, w.2.1, w.2.2.1, w.2.2.2.1, r8.2.1, w.2.2.2.2.2.1, w.2.2.2.2.2.2.1, w.2.2.2.2.2.2.2.1, w.2.2.2.2.2.2.2.2) r8.2.2.1 sp mp mf r8.2.2.2 ps nm mu ch wy nx ou (x4 + 5) _ (Nat.le_trans (by omega : nc + fuel ≤ nc + (fuel + 1)) hq) (Nat.le_trans (by omega : ns + 6 * fuel ≤ ns + 6 * (fuel + 1)) hq2) hf _ rfl
      · have hf := ob_neg q3 hf
        by_cases q10 : ((xs9 x4.toNatClampNeg) &&& 15) = 1
        · have hf := ob_pos q10 hf
          refine g_tabIn (n := 143) d_L_law_39 (by rw [q10]; decide) (by rw [q10]; decide) (by rw [q10]; rfl) (by decide) ?_
          refine g_aload_n (n := 144) d_L_law_143 rfl 1 rfl rfl ?_
          refine g_aload_n (n := 145) d_L_law_144 rfl 0 rfl rfl ?_
          refine g_iload (n := 147) d_L_law_145 rfl 4 rfl ?_
          refine g_iconst (n := 148) (v := 1) d_L_law_147 rfl (by decide) ?_
          refine g_iadd (n := 149) d_L_law_148 rfl ?_
          obtain ⟨b11, hf⟩ := ob_chk hf
          refine g_sld (n := 150) d_L_law_149 rfl rfl (am_inl b11) (Nat.le_of_ble_eq_true rfl) ?_
          obtain ⟨r12, h13, hf⟩ := ob_bind hf
          refine c_SWl (n := 153) (st' := [.int r12.1]) [.ref 0, .int (xs9 (x4 + 1).toNatClampNeg)] [] d_L_law_150 rfl (s_H_create htr h13 rfl) tw_295 tw_296 tw_0 tw_297 hd_L_create ⟨Nat.le_of_ble_eq_true rfl, Nat.le_of_ble_eq_true rfl⟩ (Nat.le_trans (by omega : nc + 1 ≤ nc + (fuel + 1)) hq) (Nat.le_trans (by omega : ns + 6 ≤ ns + 6 * (fuel + 1)) hq2) rfl (Nat.le_of_ble_eq_true rfl) rfl rfl ?_
          refine g_istore (n := 155) (ls' := [(5, .int r12.1), (0, .ref 99), (1, .ref 0), (2, .ref 18), (3, .ref 28), (4, .int x4)]) d_L_law_153 rfl (am_ltb rfl) rfl ?_
          refine g_aload_n (n := 156) d_L_law_155 rfl 3 rfl rfl ?_
          refine g_aload_n (n := 157) d_L_law_156 rfl 1 rfl rfl ?_
          refine g_iload (n := 159) d_L_law_157 rfl 5 rfl ?_
          refine g_iconst (n := 160) (v := 1) d_L_law_159 rfl (by decide) ?_
          refine g_iadd (n := 161) d_L_law_160 rfl ?_
          obtain ⟨b14, hf⟩ := ob_chk hf
          refine g_sld (n := 162) d_L_law_161 rfl rfl (am_inl b14) (Nat.le_of_ble_eq_true rfl) ?_
          obtain ⟨r15, h16, hf⟩ := ob_bind hf
          refine c_Vl (n := 165) (st' := []) [.int (xs9 (x4 + 1).toNatClampNeg)] [] d_L_law_162 rfl (t_M_create htr h16 rfl) tw_930 tw_931 tw_932 tw_8 tw_933 hd_M_create ⟨Nat.le_of_ble_eq_true rfl, Nat.le_of_ble_eq_true rfl⟩ (Nat.le_trans (by omega : nc + 1 ≤ nc + (fuel + 1)) hq) (Nat.le_trans (by omega : ns + 6 ≤ ns + 6 * (fuel + 1)) hq2) (ci := 7) rfl rfl rfl (Nat.le_of_ble_eq_true rfl) rfl rfl ?_
          refine g_goto (n := 601) d_L_law_165 (by decide) ?_
          refine g_iinc (n := 604) (v := (x4 + 5)) (ls' := [(4, .int (x4 + 5)), (5, .int r12.1), (0, .ref 99), (1, .ref 0), (2, .ref 18), (3, .ref 28)]) d_L_law_601 rfl 5 rfl rfl (am_ltb rfl) rfl ?_
          refine g_goto (n := 23) d_L_law_604 (by decide) ?_
          refine g_ls [2, 3, 4, 5, 0] rfl ?_
          exact ih (nc + 1) (ns + 6) r12.2.1 li su r12.2.2.1 r12.2.2.2.1 r12.2.2.2.2.1 ctb lcb adb fx us r12.2.2.2.2.2.1 r12.2.2.2.2.2.2.1 r12.2.2.2.2.2.2.2.1 r12.2.2.2.2.2.2.2.2.1 r12.2.2.2.2.2.2.2.2.2 r15.1 r15.2.1 sp r15.2.2.1 mf ml ps r15.2.2.2 mu ch wy nx ou (x4 + 5) _ (Nat.le_trans (by omega : nc + 1 + fuel ≤ nc + (fuel + 1)) hq) (Nat.le_trans (by omega : ns + 6 + 6 * fuel ≤ ns + 6 * (fuel + 1)) hq2) hf _ rfl
        · have hf := ob_neg q10 hf
          by_cases q17 : ((xs9 x4.toNatClampNeg) &&& 15) = 2
          · have hf := ob_pos q17 hf
            refine g_tabIn (n := 168) d_L_law_39 (by rw [q17]; decide) (by rw [q17]; decide) (by rw [q17]; rfl) (by decide) ?_
            refine g_aload_n (n := 169) d_L_law_168 rfl 1 rfl rfl ?_
            obtain ⟨r18, h19, hf⟩ := ob_bind hf
            refine c_SWl (n := 172) (st' := [.int r18.1]) [.ref 0] [] d_L_law_169 rfl (s_H_delete htr h19 rfl) tw_592 tw_593 tw_0 tw_594 hd_L_delete ⟨Nat.le_of_ble_eq_true rfl, Nat.le_of_ble_eq_true rfl⟩ (Nat.le_trans (by omega : nc + 1 ≤ nc + (fuel + 1)) hq) (Nat.le_trans (by omega : ns + 6 ≤ ns + 6 * (fuel + 1)) hq2) rfl (Nat.le_of_ble_eq_true rfl) rfl rfl ?_
            refine g_istore (n := 174) (ls' := [(5, .int r18.1), (0, .ref 99), (1, .ref 0), (2, .ref 18), (3, .ref 28), (4, .int x4)]) d_L_law_172 rfl (am_ltb rfl) rfl ?_
            refine g_aload_n (n := 175) d_L_law_174 rfl 3 rfl rfl ?_
            obtain ⟨r20, h21, hf⟩ := ob_bind hf
            refine c_Vl (n := 178) (st' := []) [] [] d_L_law_175 rfl (t_M_delete htr h21 rfl) tw_1045 tw_1046 tw_1047 tw_8 tw_1048 hd_M_delete ⟨Nat.le_of_ble_eq_true rfl, Nat.le_of_ble_eq_true rfl⟩ (Nat.le_trans (by omega : nc + 1 ≤ nc + (fuel + 1)) hq) (Nat.le_trans (by omega : ns + 6 ≤ ns + 6 * (fuel + 1)) hq2) (ci := 7) rfl rfl rfl (Nat.le_of_ble_eq_true rfl) rfl rfl ?_
            refine g_goto (n := 601) d_L_law_178 (by decide) ?_
            refine g_iinc (n := 604) (v := (x4 + 5)) (ls' := [(4, .int (x4 + 5)), (5, .int r18.1), (0, .ref 99), (1, .ref 0), (2, .ref 18), (3, .ref 28)]) d_L_law_601 rfl 5 rfl rfl (am_ltb rfl) rfl ?_
            refine g_goto (n := 23) d_L_law_604 (by decide) ?_
            refine g_ls [2, 3, 4, 5, 0] rfl ?_
            exact ih (nc + 1) (ns + 6) r18.2.1 li su r18.2.2.1 r18.2.2.2.1 r18.2.2.2.2.1 r18.2.2.2.2.2.1 r18.2.2.2.2.2.2.1 r18.2.2.2.2.2.2.2.1 fx us r18.2.2.2.2.2.2.2.2.1 pt r18.2.2.2.2.2.2.2.2.2 br rw r20.1 r20.2 sp mp mf ml ps nm mu ch wy nx ou (x4 + 5) _ (Nat.le_trans (by omega : nc + 1 + fuel ≤ nc + (fuel + 1)) hq) (Nat.le_trans (by omega : ns + 6 + 6 * fuel ≤ ns + 6 * (fuel + 1)) hq2) hf _ rfl
          · have hf := ob_neg q17 hf
            by_cases q22 : ((xs9 x4.toNatClampNeg) &&& 15) = 3
            · have hf := ob_pos q22 hf
              refine g_tabIn (n := 181) d_L_law_39 (by rw [q22]; decide) (by rw [q22]; decide) (by rw [q22]; rfl) (by decide) ?_
              refine g_aload_n (n := 182) d_L_law_181 rfl 1 rfl rfl ?_
              obtain ⟨r23, h24, hf⟩ := ob_bind hf
              refine c_SWl (n := 185) (st' := [.int r23.1]) [.ref 0] [] d_L_law_182 rfl (s_H_enter htr h24 rfl) tw_653 tw_654 tw_0 tw_655 hd_L_enter ⟨Nat.le_of_ble_eq_true rfl, Nat.le_of_ble_eq_true rfl⟩ (Nat.le_trans (by omega : nc + 1 ≤ nc + (fuel + 1)) hq) (Nat.le_trans (by omega : ns + 6 ≤ ns + 6 * (fuel + 1)) hq2) rfl (Nat.le_of_ble_eq_true rfl) rfl rfl ?_
              refine g_istore (n := 187) (ls' := [(5, .int r23.1), (0, .ref 99), (1, .ref 0), (2, .ref 18), (3, .ref 28), (4, .int x4)]) d_L_law_185 rfl (am_ltb rfl) rfl ?_
              refine g_aload_n (n := 188) d_L_law_187 rfl 3 rfl rfl ?_
              obtain ⟨r25, h26, hf⟩ := ob_bind hf
              refine c_Vl (n := 191) (st' := []) [] [] d_L_law_188 rfl (t_M_enter htr h26 rfl) tw_1061 tw_1062 tw_1063 tw_8 tw_1064 hd_M_enter ⟨Nat.le_of_ble_eq_true rfl, Nat.le_of_ble_eq_true rfl⟩ (Nat.le_trans (by omega : nc + 1 ≤ nc + (fuel + 1)) hq) (Nat.le_trans (by omega : ns + 6 ≤ ns + 6 * (fuel + 1)) hq2) (ci := 7) rfl rfl rfl (Nat.le_of_ble_eq_true rfl) rfl rfl ?_
              refine g_goto (n := 601) d_L_law_191 (by decide) ?_
              refine g_iinc (n := 604) (v := (x4 + 5)) (ls' := [(4, .int (x4 + 5)), (5, .int r23.1), (0, .ref 99), (1, .ref 0), (2, .ref 18), (3, .ref 28)]) d_L_law_601 rfl 5 rfl rfl (am_ltb rfl) rfl ?_
              refine g_goto (n := 23) d_L_law_604 (by decide) ?_
              refine g_ls [2, 3, 4, 5, 0] rfl ?_
              exact ih (nc + 1) (ns + 6) (r23.2.1, r23.2.2.1, r23.2.2.2.1, g.2.2.2.1, g.2.2.2.2.1, g.2.2.2.2.2.1, g.2.2.2.2.2.2.1, g.2.2.2.2.2.2.2.1, g.2.2.2.2.2.2.2.2.1, g.2.2.2.2.2.2.2.2.2) li su r23.2.2.2.2.1 r23.2.2.2.2.2.1 r23.2.2.2.2.2.2.1 ctb lcb adb fx us r23.2.2.2.2.2.2.2.1 pt r23.2.2.2.2.2.2.2.2 br rw (w.1, r25.1, w.2.2.1, w.2.2.2.1, r25.2.1, r25.2.2.1, r25.2.2.2.1, w.2.2.2.2.2.2.2.1, w.2.2.2.2.2.2.2.2) r25.2.2.2.2 sp mp mf ml ps nm mu ch wy nx ou (x4 + 5) _ (Nat.le_trans (by omega : nc + 1 + fuel ≤ nc + (fuel + 1)) hq) (Nat.le_trans (by omega : ns + 6 + 6 * fuel ≤ ns + 6 * (fuel + 1)) hq2) hf _ rfl
            · have hf := ob_neg q22 hf
              by_cases q27 : ((xs9 x4.toNatClampNeg) &&& 15) = 4
              · have hf := ob_pos q27 hf
                refine g_tabIn (n := 194) d_L_law_39 (by rw [q27]; decide) (by rw [q27]; decide) (by rw [q27]; rfl) (by decide) ?_
                refine g_aload_n (n := 195) d_L_law_194 rfl 1 rfl rfl ?_
                refine g_aload_n (n := 196) d_L_law_195 rfl 3 rfl rfl ?_
                obtain ⟨r28, h29, hf⟩ := ob_bind hf
                refine c_SWl (n := 199) (st' := [.int r28.1]) [.ref 0, .ref 28] [] d_L_law_196 rfl (s_H_open htr h29 rfl) tw_669 tw_670 tw_0 tw_671 hd_L_open ⟨Nat.le_of_ble_eq_true rfl, Nat.le_of_ble_eq_true rfl⟩ (Nat.le_trans (by omega : nc + 1 ≤ nc + (fuel + 1)) hq) (Nat.le_trans (by omega : ns + 6 ≤ ns + 6 * (fuel + 1)) hq2) rfl (Nat.le_of_ble_eq_true rfl) rfl rfl ?_
                refine g_istore (n := 201) (ls' := [(5, .int r28.1), (0, .ref 99), (1, .ref 0), (2, .ref 18), (3, .ref 28), (4, .int x4)]) d_L_law_199 rfl (am_ltb rfl) rfl ?_
                refine g_aload_n (n := 202) d_L_law_201 rfl 3 rfl rfl ?_
                obtain ⟨r30, h31, hf⟩ := ob_bind hf
                refine c_Vl (n := 205) (st' := [.int r30.1]) [] [] d_L_law_202 rfl (t_M_open htr h31 rfl) tw_1065 tw_1066 tw_1067 tw_8 tw_1068 hd_M_open ⟨Nat.le_of_ble_eq_true rfl, Nat.le_of_ble_eq_true rfl⟩ (Nat.le_trans (by omega : nc + 1 ≤ nc + (fuel + 1)) hq) (Nat.le_trans (by omega : ns + 6 ≤ ns + 6 * (fuel + 1)) hq2) (ci := 7) rfl rfl rfl (Nat.le_of_ble_eq_true rfl) rfl rfl ?_
                refine g_istore (n := 207) (ls' := [(6, .int r30.1), (5, .int r28.1), (0, .ref 99), (1, .ref 0), (2, .ref 18), (3, .ref 28), (4, .int x4)]) d_L_law_205 rfl (am_ltb rfl) rfl ?_
                refine g_goto (n := 601) d_L_law_207 (by decide) ?_
                refine g_iinc (n := 604) (v := (x4 + 5)) (ls' := [(4, .int (x4 + 5)), (6, .int r30.1), (5, .int r28.1), (0, .ref 99), (1, .ref 0), (2, .ref 18), (3, .ref 28)]) d_L_law_601 rfl 6 rfl rfl (am_ltb rfl) rfl ?_
                refine g_goto (n := 23) d_L_law_604 (by decide) ?_
                refine g_ls [3, 4, 5, 6, 0] rfl ?_
                exact ih (nc + 1) (ns + 6) (r28.2.2.1, g.2.1, g.2.2.1, r28.2.2.2.1, r28.2.2.2.2.1, g.2.2.2.2.2.1, g.2.2.2.2.2.2.1, g.2.2.2.2.2.2.2.1, g.2.2.2.2.2.2.2.2.1, g.2.2.2.2.2.2.2.2.2) li su r28.2.2.2.2.2.1 r28.2.2.2.2.2.2.1 r28.2.2.2.2.2.2.2.1 ctb lcb adb fx us r28.2.2.2.2.2.2.2.2.1 pt r28.2.2.2.2.2.2.2.2.2 br rw (w.1, r30.2.1, w.2.2.1, w.2.2.2.1, r30.2.2.1, w.2.2.2.2.2.1, w.2.2.2.2.2.2.1, w.2.2.2.2.2.2.2.1, r30.2.2.2.1) r30.2.2.2.2.1 sp mp mf ml r30.2.2.2.2.2 nm mu ch wy nx r28.2.1 (x4 + 5) _ (Nat.le_trans (by omega : nc + 1 + fuel ≤ nc + (fuel + 1)) hq) (Nat.le_trans (by omega : ns + 6 + 6 * fuel ≤ ns + 6 * (fuel + 1)) hq2) hf _ rfl
              · have hf := ob_neg q27 hf
                by_cases q32 : ((xs9 x4.toNatClampNeg) &&& 15) = 5
                · have hf := ob_pos q32 hf
                  refine g_tabIn (n := 210) d_L_law_39 (by rw [q32]; decide) (by rw [q32]; decide) (by rw [q32]; rfl) (by decide) ?_
                  refine g_aload_n (n := 211) d_L_law_210 rfl 1 rfl rfl ?_
                  refine g_aload_n (n := 212) d_L_law_211 rfl 0 rfl rfl ?_
                  refine g_iload (n := 214) d_L_law_212 rfl 4 rfl ?_
                  refine g_iconst (n := 215) (v := 1) d_L_law_214 rfl (by decide) ?_
                  refine g_iadd (n := 216) d_L_law_215 rfl ?_
                  obtain ⟨b33, hf⟩ := ob_chk hf
                  refine g_sld (n := 217) d_L_law_216 rfl rfl (am_inl b33) (Nat.le_of_ble_eq_true rfl) ?_
                  obtain ⟨r34, h35, hf⟩ := ob_bind hf
                  refine c_Vl (n := 220) (st' := [.int r34.1]) [.int (xs9 (x4 + 1).toNatClampNeg)] [] d_L_law_217 rfl (s_V_close htr h35 rfl) tw_206 tw_207 tw_208 tw_1 tw_209 hd_V_close ⟨Nat.le_of_ble_eq_true rfl, Nat.le_of_ble_eq_true rfl⟩ (Nat.le_trans (by omega : nc ≤ nc + (fuel + 1)) hq) (Nat.le_trans (by omega : ns ≤ ns + 6 * (fuel + 1)) hq2) (ci := 6) rfl rfl rfl (Nat.le_of_ble_eq_true rfl) rfl rfl ?_
                  refine g_pop (n := 221) d_L_law_220 rfl rfl ?_
                  refine g_aload_n (n := 222) d_L_law_221 rfl 2 rfl rfl ?_
                  refine g_aload_n (n := 223) d_L_law_222 rfl 0 rfl rfl ?_
                  refine g_iload (n := 225) d_L_law_223 rfl 4 rfl ?_
                  refine g_iconst (n := 226) (v := 1) d_L_law_225 rfl (by decide) ?_
                  refine g_iadd (n := 227) d_L_law_226 rfl ?_
                  obtain ⟨b36, hf⟩ := ob_chk hf
                  refine g_sld (n := 228) d_L_law_227 rfl rfl (am_inl b36) (Nat.le_of_ble_eq_true rfl) ?_
                  obtain ⟨r37, h38, hf⟩ := ob_bind hf
                  refine c_Vl (n := 231) (st' := [.int r37.1]) [.int (xs9 (x4 + 1).toNatClampNeg)] [] d_L_law_228 rfl (t_M_close htr h38 rfl) tw_1069 tw_1070 tw_1071 tw_8 tw_1072 hd_M_close ⟨Nat.le_of_ble_eq_true rfl, Nat.le_of_ble_eq_true rfl⟩ (Nat.le_trans (by omega : nc ≤ nc + (fuel + 1)) hq) (Nat.le_trans (by omega : ns ≤ ns + 6 * (fuel + 1)) hq2) (ci := 7) rfl rfl rfl (Nat.le_of_ble_eq_true rfl) rfl rfl ?_
                  refine g_pop (n := 232) d_L_law_231 rfl rfl ?_
                  refine g_goto (n := 601) d_L_law_232 (by decide) ?_
                  refine g_iinc (n := 604) (v := (x4 + 5)) (ls' := [(4, .int (x4 + 5)), (0, .ref 99), (1, .ref 0), (2, .ref 18), (3, .ref 28)]) d_L_law_601 rfl 4 rfl rfl (am_ltb rfl) rfl ?_
                  refine g_goto (n := 23) d_L_law_604 (by decide) ?_
                  refine g_ls [1, 2, 3, 4, 0] rfl ?_
                  exact ih nc ns (g.1, g.2.1, g.2.2.1, r34.2, g.2.2.2.2.1, g.2.2.2.2.2.1, g.2.2.2.2.2.2.1, g.2.2.2.2.2.2.2.1, g.2.2.2.2.2.2.2.2.1, g.2.2.2.2.2.2.2.2.2) li su ct lc ad ctb lcb adb fx us ln pt tx br rw (w.1, w.2.1, w.2.2.1, w.2.2.2.1, w.2.2.2.2.1, w.2.2.2.2.2.1, w.2.2.2.2.2.2.1, w.2.2.2.2.2.2.2.1, r37.2.1) r37.2.2 sp mp mf ml ps nm mu ch wy nx ou (x4 + 5) _ (Nat.le_trans (by omega : nc + fuel ≤ nc + (fuel + 1)) hq) (Nat.le_trans (by omega : ns + 6 * fuel ≤ ns + 6 * (fuel + 1)) hq2) hf _ rfl
                · have hf := ob_neg q32 hf
                  by_cases q39 : ((xs9 x4.toNatClampNeg) &&& 15) = 6
                  · have hf := ob_pos q39 hf
                    refine g_tabIn (n := 235) d_L_law_39 (by rw [q39]; decide) (by rw [q39]; decide) (by rw [q39]; rfl) (by decide) ?_
                    refine g_aload_n (n := 236) d_L_law_235 rfl 1 rfl rfl ?_
                    refine g_aload_n (n := 237) d_L_law_236 rfl 0 rfl rfl ?_
                    refine g_iload (n := 239) d_L_law_237 rfl 4 rfl ?_
                    refine g_iconst (n := 240) (v := 1) d_L_law_239 rfl (by decide) ?_
                    refine g_iadd (n := 241) d_L_law_240 rfl ?_
                    obtain ⟨b40, hf⟩ := ob_chk hf
                    refine g_sld (n := 242) d_L_law_241 rfl rfl (am_inl b40) (Nat.le_of_ble_eq_true rfl) ?_
                    refine g_aload_n (n := 243) d_L_law_242 rfl 0 rfl rfl ?_
                    refine g_iload (n := 245) d_L_law_243 rfl 4 rfl ?_
                    refine g_iconst (n := 246) (v := 2) d_L_law_245 rfl (by decide) ?_
                    refine g_iadd (n := 247) d_L_law_246 rfl ?_
                    obtain ⟨b41, hf⟩ := ob_chk hf
                    refine g_sld (n := 248) d_L_law_247 rfl rfl (am_inl b41) (Nat.le_of_ble_eq_true rfl) ?_
                    obtain ⟨r42, h43, hf⟩ := ob_bind hf
                    refine c_Vl (n := 251) (st' := [.int r42.1]) [.int (xs9 (x4 + 1).toNatClampNeg), .int (xs9 (x4 + 2).toNatClampNeg)] [] d_L_law_248 rfl (s_V_seek htr h43 rfl) tw_218 tw_219 tw_220 tw_1 tw_221 hd_V_seek ⟨Nat.le_of_ble_eq_true rfl, Nat.le_of_ble_eq_true rfl⟩ (Nat.le_trans (by omega : nc ≤ nc + (fuel + 1)) hq) (Nat.le_trans (by omega : ns ≤ ns + 6 * (fuel + 1)) hq2) (ci := 6) rfl rfl rfl (Nat.le_of_ble_eq_true rfl) rfl rfl ?_
                    refine g_pop (n := 252) d_L_law_251 rfl rfl ?_
                    refine g_aload_n (n := 253) d_L_law_252 rfl 2 rfl rfl ?_
                    refine g_aload_n (n := 254) d_L_law_253 rfl 0 rfl rfl ?_
                    refine g_iload (n := 256) d_L_law_254 rfl 4 rfl ?_
                    refine g_iconst (n := 257) (v := 1) d_L_law_256 rfl (by decide) ?_
                    refine g_iadd (n := 258) d_L_law_257 rfl ?_
                    obtain ⟨b44, hf⟩ := ob_chk hf
                    refine g_sld (n := 259) d_L_law_258 rfl rfl (am_inl b44) (Nat.le_of_ble_eq_true rfl) ?_
                    refine g_aload_n (n := 260) d_L_law_259 rfl 0 rfl rfl ?_
                    refine g_iload (n := 262) d_L_law_260 rfl 4 rfl ?_
                    refine g_iconst (n := 263) (v := 2) d_L_law_262 rfl (by decide) ?_
                    refine g_iadd (n := 264) d_L_law_263 rfl ?_
                    obtain ⟨b45, hf⟩ := ob_chk hf
                    refine g_sld (n := 265) d_L_law_264 rfl rfl (am_inl b45) (Nat.le_of_ble_eq_true rfl) ?_
                    obtain ⟨r46, h47, hf⟩ := ob_bind hf
                    refine c_Vl (n := 268) (st' := [.int r46.1]) [.int (xs9 (x4 + 1).toNatClampNeg), .int (xs9 (x4 + 2).toNatClampNeg)] [] d_L_law_265 rfl (t_M_seek htr h47 rfl) tw_1077 tw_1078 tw_1079 tw_8 tw_1080 hd_M_seek ⟨Nat.le_of_ble_eq_true rfl, Nat.le_of_ble_eq_true rfl⟩ (Nat.le_trans (by omega : nc ≤ nc + (fuel + 1)) hq) (Nat.le_trans (by omega : ns ≤ ns + 6 * (fuel + 1)) hq2) (ci := 7) rfl rfl rfl (Nat.le_of_ble_eq_true rfl) rfl rfl ?_
                    refine g_pop (n := 269) d_L_law_268 rfl rfl ?_
                    refine g_goto (n := 601) d_L_law_269 (by decide) ?_
                    refine g_iinc (n := 604) (v := (x4 + 5)) (ls' := [(4, .int (x4 + 5)), (0, .ref 99), (1, .ref 0), (2, .ref 18), (3, .ref 28)]) d_L_law_601 rfl 4 rfl rfl (am_ltb rfl) rfl ?_
                    refine g_goto (n := 23) d_L_law_604 (by decide) ?_
                    refine g_ls [1, 2, 3, 4, 0] rfl ?_
                    exact ih nc ns (g.1, g.2.1, g.2.2.1, g.2.2.2.1, r42.2, g.2.2.2.2.2.1, g.2.2.2.2.2.2.1, g.2.2.2.2.2.2.2.1, g.2.2.2.2.2.2.2.2.1, g.2.2.2.2.2.2.2.2.2) li su ct lc ad ctb lcb adb fx us ln pt tx br rw w r46.2.1 sp mp mf ml r46.2.2 nm mu ch wy nx ou (x4 + 5) _ (Nat.le_trans (by omega : nc + fuel ≤ nc + (fuel + 1)) hq) (Nat.le_trans (by omega : ns + 6 * fuel ≤ ns + 6 * (fuel + 1)) hq2) hf _ rfl
                  · have hf := ob_neg q39 hf
                    by_cases q48 : ((xs9 x4.toNatClampNeg) &&& 15) = 7
                    · have hf := ob_pos q48 hf
                      refine g_tabIn (n := 272) d_L_law_39 (by rw [q48]; decide) (by rw [q48]; decide) (by rw [q48]; rfl) (by decide) ?_
                      refine g_aload_n (n := 273) d_L_law_272 rfl 1 rfl rfl ?_
                      refine g_aload_n (n := 274) d_L_law_273 rfl 0 rfl rfl ?_
                      refine g_iload (n := 276) d_L_law_274 rfl 4 rfl ?_
                      refine g_iconst (n := 277) (v := 1) d_L_law_276 rfl (by decide) ?_
                      refine g_iadd (n := 278) d_L_law_277 rfl ?_
                      obtain ⟨b49, hf⟩ := ob_chk hf
                      refine g_sld (n := 279) d_L_law_278 rfl rfl (am_inl b49) (Nat.le_of_ble_eq_true rfl) ?_
                      refine g_aload_n (n := 280) d_L_law_279 rfl 0 rfl rfl ?_
                      refine g_iload (n := 282) d_L_law_280 rfl 4 rfl ?_
                      refine g_iconst (n := 283) (v := 2) d_L_law_282 rfl (by decide) ?_
                      refine g_iadd (n := 284) d_L_law_283 rfl ?_
                      obtain ⟨b50, hf⟩ := ob_chk hf
                      refine g_sld (n := 285) d_L_law_284 rfl rfl (am_inl b50) (Nat.le_of_ble_eq_true rfl) ?_
                      refine g_aload_n (n := 286) d_L_law_285 rfl 3 rfl rfl ?_
                      obtain ⟨r51, h52, hf⟩ := ob_bind hf
                      refine c_SWl (n := 289) (st' := [.int r51.1]) [.ref 0, .int (xs9 (x4 + 1).toNatClampNeg), .int (xs9 (x4 + 2).toNatClampNeg), .ref 28] [] d_L_law_286 rfl (s_H_read htr h52 rfl) tw_686 tw_687 tw_0 tw_688 hd_L_read ⟨Nat.le_of_ble_eq_true rfl, Nat.le_of_ble_eq_true rfl⟩ (Nat.le_trans (by omega : nc + 1 ≤ nc + (fuel + 1)) hq) (Nat.le_trans (by omega : ns + 6 ≤ ns + 6 * (fuel + 1)) hq2) rfl (Nat.le_of_ble_eq_true rfl) rfl rfl ?_
                      refine g_istore (n := 291) (ls' := [(5, .int r51.1), (0, .ref 99), (1, .ref 0), (2, .ref 18), (3, .ref 28), (4, .int x4)]) d_L_law_289 rfl (am_ltb rfl) rfl ?_
                      refine g_aload_n (n := 292) d_L_law_291 rfl 3 rfl rfl ?_
                      refine g_aload_n (n := 293) d_L_law_292 rfl 1 rfl rfl ?_
                      refine g_iload (n := 295) d_L_law_293 rfl 5 rfl ?_
                      refine g_iconst (n := 296) (v := 1) d_L_law_295 rfl (by decide) ?_
                      refine g_iadd (n := 297) d_L_law_296 rfl ?_
                      obtain ⟨b53, hf⟩ := ob_chk hf
                      refine g_sld (n := 298) d_L_law_297 rfl rfl (am_inl b53) (Nat.le_of_ble_eq_true rfl) ?_
                      refine g_aload_n (n := 299) d_L_law_298 rfl 1 rfl rfl ?_
                      refine g_iload (n := 301) d_L_law_299 rfl 5 rfl ?_
                      refine g_iconst (n := 302) (v := 2) d_L_law_301 rfl (by decide) ?_
                      refine g_iadd (n := 303) d_L_law_302 rfl ?_
                      obtain ⟨b54, hf⟩ := ob_chk hf
                      refine g_sld (n := 304) d_L_law_303 rfl rfl (am_inl b54) (Nat.le_of_ble_eq_true rfl) ?_
                      obtain ⟨r55, h56, hf⟩ := ob_bind hf
                      refine c_Vl (n := 307) (st' := [.long r55.1]) [.int (xs9 (x4 + 1).toNatClampNeg), .int (xs9 (x4 + 2).toNatClampNeg)] [] d_L_law_304 rfl (t_M_read htr h56 rfl) tw_1085 tw_1086 tw_1087 tw_8 tw_1088 hd_M_read ⟨Nat.le_of_ble_eq_true rfl, Nat.le_of_ble_eq_true rfl⟩ (Nat.le_trans (by omega : nc + 1 ≤ nc + (fuel + 1)) hq) (Nat.le_trans (by omega : ns + 6 ≤ ns + 6 * (fuel + 1)) hq2) (ci := 7) rfl rfl rfl (Nat.le_of_ble_eq_true rfl) rfl rfl ?_
                      refine g_lstore (n := 309) (ls' := [(6, .long r55.1), (5, .int r51.1), (0, .ref 99), (1, .ref 0), (2, .ref 18), (3, .ref 28), (4, .int x4)]) d_L_law_307 rfl (am_ltb rfl) rfl ?_
                      refine g_goto (n := 601) d_L_law_309 (by decide) ?_
                      refine g_iinc (n := 604) (v := (x4 + 5)) (ls' := [(4, .int (x4 + 5)), (6, .long r55.1), (5, .int r51.1), (0, .ref 99), (1, .ref 0), (2, .ref 18), (3, .ref 28)]) d_L_law_601 rfl 6 rfl rfl (am_ltb rfl) rfl ?_
                      refine g_goto (n := 23) d_L_law_604 (by decide) ?_
                      refine g_ls [3, 4, 5, 6, 0] rfl ?_
                      exact ih (nc + 1) (ns + 6) (g.1, g.2.1, g.2.2.1, g.2.2.2.1, r51.2.2, g.2.2.2.2.2.1, g.2.2.2.2.2.2.1, g.2.2.2.2.2.2.2.1, g.2.2.2.2.2.2.2.2.1, g.2.2.2.2.2.2.2.2.2) li su ct lc ad ctb lcb adb fx us ln pt tx br rw (w.1, r55.2.1, w.2.2.1, w.2.2.2.1, w.2.2.2.2.1, w.2.2.2.2.2.1, w.2.2.2.2.2.2.1, w.2.2.2.2.2.2.2.1, w.2.2.2.2.2.2.2.2) r55.2.2.1 sp mp mf ml r55.2.2.2 nm mu ch wy nx r51.2.1 (x4 + 5) _ (Nat.le_trans (by omega : nc + 1 + fuel ≤ nc + (fuel + 1)) hq) (Nat.le_trans (by omega : ns + 6 + 6 * fuel ≤ ns + 6 * (fuel + 1)) hq2) hf _ rfl
                    · have hf := ob_neg q48 hf
                      by_cases q57 : ((xs9 x4.toNatClampNeg) &&& 15) = 8
                      · have hf := ob_pos q57 hf
                        refine g_tabIn (n := 312) d_L_law_39 (by rw [q57]; decide) (by rw [q57]; decide) (by rw [q57]; rfl) (by decide) ?_
                        refine g_aload_n (n := 313) d_L_law_312 rfl 1 rfl rfl ?_
                        refine g_aload_n (n := 314) d_L_law_313 rfl 0 rfl rfl ?_
                        refine g_iload (n := 316) d_L_law_314 rfl 4 rfl ?_
                        refine g_iconst (n := 317) (v := 1) d_L_law_316 rfl (by decide) ?_
                        refine g_iadd (n := 318) d_L_law_317 rfl ?_
                        obtain ⟨b58, hf⟩ := ob_chk hf
                        refine g_sld (n := 319) d_L_law_318 rfl rfl (am_inl b58) (Nat.le_of_ble_eq_true rfl) ?_
                        refine g_aload_n (n := 320) d_L_law_319 rfl 0 rfl rfl ?_
                        refine g_iload (n := 322) d_L_law_320 rfl 4 rfl ?_
                        refine g_iconst (n := 323) (v := 2) d_L_law_322 rfl (by decide) ?_
                        refine g_iadd (n := 324) d_L_law_323 rfl ?_
                        obtain ⟨b59, hf⟩ := ob_chk hf
                        refine g_sld (n := 325) d_L_law_324 rfl rfl (am_inl b59) (Nat.le_of_ble_eq_true rfl) ?_
                        refine g_i2l (n := 326) d_L_law_325 rfl ?_
                        refine g_bipush (n := 328) (v := 32) d_L_law_326 rfl (by decide) ?_
                        refine g_lshl (n := 329) d_L_law_328 rfl ?_
                        refine g_aload_n (n := 330) d_L_law_329 rfl 0 rfl rfl ?_
                        refine g_iload (n := 332) d_L_law_330 rfl 4 rfl ?_
                        refine g_iconst (n := 333) (v := 3) d_L_law_332 rfl (by decide) ?_
                        refine g_iadd (n := 334) d_L_law_333 rfl ?_
                        obtain ⟨b60, hf⟩ := ob_chk hf
                        refine g_sld (n := 335) d_L_law_334 rfl rfl (am_inl b60) (Nat.le_of_ble_eq_true rfl) ?_
                        refine g_i2l (n := 336) d_L_law_335 rfl ?_
                        refine g_ldc2 (n := 339) (v := 4294967295) d_L_law_336 rfl (List.mem_cons_of_mem _ tw_1164) ?_
                        refine g_land (n := 340) d_L_law_339 rfl ?_
                        refine g_lor (n := 341) d_L_law_340 rfl ?_
                        refine g_aload_n (n := 342) d_L_law_341 rfl 0 rfl rfl ?_
                        refine g_iload (n := 344) d_L_law_342 rfl 4 rfl ?_
                        refine g_iconst (n := 345) (v := 4) d_L_law_344 rfl (by decide) ?_
                        refine g_iadd (n := 346) d_L_law_345 rfl ?_
                        obtain ⟨b61, hf⟩ := ob_chk hf
                        refine g_sld (n := 347) d_L_law_346 rfl rfl (am_inl b61) (Nat.le_of_ble_eq_true rfl) ?_
                        refine g_aload_n (n := 348) d_L_law_347 rfl 3 rfl rfl ?_
                        obtain ⟨r62, h63, hf⟩ := ob_bind hf
                        refine c_SWl (n := 351) (st' := [.int r62.1]) [.ref 0, .int (xs9 (x4 + 1).toNatClampNeg), .long ((((xs9 (x4 + 2).toNatClampNeg).toInt64) <<< ((32 : Int32).toInt64 &&& 63)) ||| (((xs9 (x4 + 3).toNatClampNeg).toInt64) &&& 4294967295)), .int (xs9 (x4 + 4).toNatClampNeg), .ref 28] [] d_L_law_348 rfl (s_H_write htr h63 rfl) tw_706 tw_707 tw_0 tw_708 hd_L_write ⟨Nat.le_of_ble_eq_true rfl, Nat.le_of_ble_eq_true rfl⟩ (Nat.le_trans (by omega : nc + 1 ≤ nc + (fuel + 1)) hq) (Nat.le_trans (by omega : ns + 6 ≤ ns + 6 * (fuel + 1)) hq2) rfl (Nat.le_of_ble_eq_true rfl) rfl rfl ?_
                        refine g_istore (n := 353) (ls' := [(5, .int r62.1), (0, .ref 99), (1, .ref 0), (2, .ref 18), (3, .ref 28), (4, .int x4)]) d_L_law_351 rfl (am_ltb rfl) rfl ?_
                        refine g_aload_n (n := 354) d_L_law_353 rfl 3 rfl rfl ?_
                        refine g_aload_n (n := 355) d_L_law_354 rfl 1 rfl rfl ?_
                        refine g_iload (n := 357) d_L_law_355 rfl 5 rfl ?_
                        refine g_iconst (n := 358) (v := 1) d_L_law_357 rfl (by decide) ?_
                        refine g_iadd (n := 359) d_L_law_358 rfl ?_
                        obtain ⟨b64, hf⟩ := ob_chk hf
                        refine g_sld (n := 360) d_L_law_359 rfl rfl (am_inl b64) (Nat.le_of_ble_eq_true rfl) ?_
                        refine g_aload_n (n := 361) d_L_law_360 rfl 1 rfl rfl ?_
                        refine g_iload (n := 363) d_L_law_361 rfl 5 rfl ?_
                        refine g_iconst (n := 364) (v := 2) d_L_law_363 rfl (by decide) ?_
                        refine g_iadd (n := 365) d_L_law_364 rfl ?_
                        obtain ⟨b65, hf⟩ := ob_chk hf
                        refine g_sld (n := 366) d_L_law_365 rfl rfl (am_inl b65) (Nat.le_of_ble_eq_true rfl) ?_
                        refine g_i2l (n := 367) d_L_law_366 rfl ?_
                        refine g_bipush (n := 369) (v := 32) d_L_law_367 rfl (by decide) ?_
                        refine g_lshl (n := 370) d_L_law_369 rfl ?_
                        refine g_aload_n (n := 371) d_L_law_370 rfl 1 rfl rfl ?_
                        refine g_iload (n := 373) d_L_law_371 rfl 5 rfl ?_
                        refine g_iconst (n := 374) (v := 3) d_L_law_373 rfl (by decide) ?_
                        refine g_iadd (n := 375) d_L_law_374 rfl ?_
                        obtain ⟨b66, hf⟩ := ob_chk hf
                        refine g_sld (n := 376) d_L_law_375 rfl rfl (am_inl b66) (Nat.le_of_ble_eq_true rfl) ?_
                        refine g_i2l (n := 377) d_L_law_376 rfl ?_
                        refine g_ldc2 (n := 380) (v := 4294967295) d_L_law_377 rfl (List.mem_cons_of_mem _ tw_1164) ?_
                        refine g_land (n := 381) d_L_law_380 rfl ?_
                        refine g_lor (n := 382) d_L_law_381 rfl ?_
                        refine g_aload_n (n := 383) d_L_law_382 rfl 1 rfl rfl ?_
                        refine g_iload (n := 385) d_L_law_383 rfl 5 rfl ?_
                        refine g_iconst (n := 386) (v := 4) d_L_law_385 rfl (by decide) ?_
                        refine g_iadd (n := 387) d_L_law_386 rfl ?_
                        obtain ⟨b67, hf⟩ := ob_chk hf
                        refine g_sld (n := 388) d_L_law_387 rfl rfl (am_inl b67) (Nat.le_of_ble_eq_true rfl) ?_
                        obtain ⟨r68, h69, hf⟩ := ob_bind hf
                        refine c_Vl (n := 391) (st' := [.int r68.1]) [.int (xs9 (x4 + 1).toNatClampNeg), .long ((((xs9 (x4 + 2).toNatClampNeg).toInt64) <<< ((32 : Int32).toInt64 &&& 63)) ||| (((xs9 (x4 + 3).toNatClampNeg).toInt64) &&& 4294967295)), .int (xs9 (x4 + 4).toNatClampNeg)] [] d_L_law_388 rfl (t_M_write htr h69 rfl) tw_1094 tw_1095 tw_1096 tw_8 tw_1097 hd_M_write ⟨Nat.le_of_ble_eq_true rfl, Nat.le_of_ble_eq_true rfl⟩ (Nat.le_trans (by omega : nc + 1 ≤ nc + (fuel + 1)) hq) (Nat.le_trans (by omega : ns + 6 ≤ ns + 6 * (fuel + 1)) hq2) (ci := 7) rfl rfl rfl (Nat.le_of_ble_eq_true rfl) rfl rfl ?_
                        refine g_istore (n := 393) (ls' := [(6, .int r68.1), (5, .int r62.1), (0, .ref 99), (1, .ref 0), (2, .ref 18), (3, .ref 28), (4, .int x4)]) d_L_law_391 rfl (am_ltb rfl) rfl ?_
                        refine g_goto (n := 601) d_L_law_393 (by decide) ?_
                        refine g_iinc (n := 604) (v := (x4 + 5)) (ls' := [(4, .int (x4 + 5)), (6, .int r68.1), (5, .int r62.1), (0, .ref 99), (1, .ref 0), (2, .ref 18), (3, .ref 28)]) d_L_law_601 rfl 6 rfl rfl (am_ltb rfl) rfl ?_
                        refine g_goto (n := 23) d_L_law_604 (by decide) ?_
                        refine g_ls [3, 4, 5, 6, 0] rfl ?_
                        exact ih (nc + 1) (ns + 6) r62.2.2.1 li su ct lc ad ctb lcb adb fx us ln pt tx br r62.2.2.2 r68.2.1 r68.2.2.1 sp mp mf ml r68.2.2.2 nm mu ch wy nx r62.2.1 (x4 + 5) _ (Nat.le_trans (by omega : nc + 1 + fuel ≤ nc + (fuel + 1)) hq) (Nat.le_trans (by omega : ns + 6 + 6 * fuel ≤ ns + 6 * (fuel + 1)) hq2) hf _ rfl
                      · have hf := ob_neg q57 hf
                        by_cases q70 : ((xs9 x4.toNatClampNeg) &&& 15) = 9
                        · have hf := ob_pos q70 hf
                          refine g_tabIn (n := 396) d_L_law_39 (by rw [q70]; decide) (by rw [q70]; decide) (by rw [q70]; rfl) (by decide) ?_
                          refine g_aload_n (n := 397) d_L_law_396 rfl 1 rfl rfl ?_
                          refine g_aload_n (n := 398) d_L_law_397 rfl 0 rfl rfl ?_
                          refine g_iload (n := 400) d_L_law_398 rfl 4 rfl ?_
                          refine g_iconst (n := 401) (v := 1) d_L_law_400 rfl (by decide) ?_
                          refine g_iadd (n := 402) d_L_law_401 rfl ?_
                          obtain ⟨b71, hf⟩ := ob_chk hf
                          refine g_sld (n := 403) d_L_law_402 rfl rfl (am_inl b71) (Nat.le_of_ble_eq_true rfl) ?_
                          refine g_aload_n (n := 404) d_L_law_403 rfl 0 rfl rfl ?_
                          refine g_iload (n := 406) d_L_law_404 rfl 4 rfl ?_
                          refine g_iconst (n := 407) (v := 2) d_L_law_406 rfl (by decide) ?_
                          refine g_iadd (n := 408) d_L_law_407 rfl ?_
                          obtain ⟨b72, hf⟩ := ob_chk hf
                          refine g_sld (n := 409) d_L_law_408 rfl rfl (am_inl b72) (Nat.le_of_ble_eq_true rfl) ?_
                          refine g_aload_n (n := 410) d_L_law_409 rfl 3 rfl rfl ?_
                          obtain ⟨r73, h74, hf⟩ := ob_bind hf
                          refine c_SWl (n := 413) (st' := [.int r73.1]) [.ref 0, .int (xs9 (x4 + 1).toNatClampNeg), .int (xs9 (x4 + 2).toNatClampNeg), .ref 28] [] d_L_law_410 rfl (s_H_list htr h74 rfl) tw_732 tw_733 tw_0 tw_734 hd_L_list ⟨Nat.le_of_ble_eq_true rfl, Nat.le_of_ble_eq_true rfl⟩ (Nat.le_trans (by omega : nc + 1 ≤ nc + (fuel + 1)) hq) (Nat.le_trans (by omega : ns + 6 ≤ ns + 6 * (fuel + 1)) hq2) rfl (Nat.le_of_ble_eq_true rfl) rfl rfl ?_
                          refine g_istore (n := 415) (ls' := [(5, .int r73.1), (0, .ref 99), (1, .ref 0), (2, .ref 18), (3, .ref 28), (4, .int x4)]) d_L_law_413 rfl (am_ltb rfl) rfl ?_
                          refine g_aload_n (n := 416) d_L_law_415 rfl 3 rfl rfl ?_
                          refine g_aload_n (n := 417) d_L_law_416 rfl 1 rfl rfl ?_
                          refine g_iload (n := 419) d_L_law_417 rfl 5 rfl ?_
                          refine g_iconst (n := 420) (v := 1) d_L_law_419 rfl (by decide) ?_
                          refine g_iadd (n := 421) d_L_law_420 rfl ?_
                          obtain ⟨b75, hf⟩ := ob_chk hf
                          refine g_sld (n := 422) d_L_law_421 rfl rfl (am_inl b75) (Nat.le_of_ble_eq_true rfl) ?_
                          refine g_aload_n (n := 423) d_L_law_422 rfl 1 rfl rfl ?_
                          refine g_iload (n := 425) d_L_law_423 rfl 5 rfl ?_
                          refine g_iconst (n := 426) (v := 2) d_L_law_425 rfl (by decide) ?_
                          refine g_iadd (n := 427) d_L_law_426 rfl ?_
                          obtain ⟨b76, hf⟩ := ob_chk hf
                          refine g_sld (n := 428) d_L_law_427 rfl rfl (am_inl b76) (Nat.le_of_ble_eq_true rfl) ?_
                          obtain ⟨r77, h78, hf⟩ := ob_bind hf
                          refine c_Vl (n := 431) (st' := [.int r77.1]) [.int (xs9 (x4 + 1).toNatClampNeg), .int (xs9 (x4 + 2).toNatClampNeg)] [] d_L_law_428 rfl (t_M_list htr h78 rfl) tw_1107 tw_1108 tw_1109 tw_8 tw_1110 hd_M_list ⟨Nat.le_of_ble_eq_true rfl, Nat.le_of_ble_eq_true rfl⟩ (Nat.le_trans (by omega : nc + 1 ≤ nc + (fuel + 1)) hq) (Nat.le_trans (by omega : ns + 6 ≤ ns + 6 * (fuel + 1)) hq2) (ci := 7) rfl rfl rfl (Nat.le_of_ble_eq_true rfl) rfl rfl ?_
                          refine g_istore (n := 433) (ls' := [(6, .int r77.1), (5, .int r73.1), (0, .ref 99), (1, .ref 0), (2, .ref 18), (3, .ref 28), (4, .int x4)]) d_L_law_431 rfl (am_ltb rfl) rfl ?_
                          refine g_goto (n := 601) d_L_law_433 (by decide) ?_
                          refine g_iinc (n := 604) (v := (x4 + 5)) (ls' := [(4, .int (x4 + 5)), (6, .int r77.1), (5, .int r73.1), (0, .ref 99), (1, .ref 0), (2, .ref 18), (3, .ref 28)]) d_L_law_601 rfl 6 rfl rfl (am_ltb rfl) rfl ?_
                          refine g_goto (n := 23) d_L_law_604 (by decide) ?_
                          refine g_ls [3, 4, 5, 6, 0] rfl ?_
                          exact ih (nc + 1) (ns + 6) g li su r73.2.2.1 r73.2.2.2.1 r73.2.2.2.2 ctb lcb adb fx us ln pt tx br rw (w.1, r77.2.1, w.2.2.1, w.2.2.2.1, w.2.2.2.2.1, w.2.2.2.2.2.1, w.2.2.2.2.2.2.1, w.2.2.2.2.2.2.2.1, w.2.2.2.2.2.2.2.2) r77.2.2 sp mp mf ml ps nm mu ch wy nx r73.2.1 (x4 + 5) _ (Nat.le_trans (by omega : nc + 1 + fuel ≤ nc + (fuel + 1)) hq) (Nat.le_trans (by omega : ns + 6 + 6 * fuel ≤ ns + 6 * (fuel + 1)) hq2) hf _ rfl
                        · have hf := ob_neg q70 hf
                          by_cases q79 : ((xs9 x4.toNatClampNeg) &&& 15) = 10
                          · have hf := ob_pos q79 hf
                            refine g_tabIn (n := 436) d_L_law_39 (by rw [q79]; decide) (by rw [q79]; decide) (by rw [q79]; rfl) (by decide) ?_
                            refine g_aload_n (n := 437) d_L_law_436 rfl 1 rfl rfl ?_
                            refine g_aload_n (n := 438) d_L_law_437 rfl 0 rfl rfl ?_
                            refine g_iload (n := 440) d_L_law_438 rfl 4 rfl ?_
                            refine g_iconst (n := 441) (v := 1) d_L_law_440 rfl (by decide) ?_
                            refine g_iadd (n := 442) d_L_law_441 rfl ?_
                            obtain ⟨b80, hf⟩ := ob_chk hf
                            refine g_sld (n := 443) d_L_law_442 rfl rfl (am_inl b80) (Nat.le_of_ble_eq_true rfl) ?_
                            obtain ⟨r81, h82, hf⟩ := ob_bind hf
                            refine c_Vl (n := 446) (st' := [.int r81.1]) [.int (xs9 (x4 + 1).toNatClampNeg)] [] d_L_law_443 rfl (s_V_cut htr h82 rfl) tw_238 tw_239 tw_240 tw_1 tw_241 hd_V_cut ⟨Nat.le_of_ble_eq_true rfl, Nat.le_of_ble_eq_true rfl⟩ (Nat.le_trans (by omega : nc ≤ nc + (fuel + 1)) hq) (Nat.le_trans (by omega : ns ≤ ns + 6 * (fuel + 1)) hq2) (ci := 6) rfl rfl rfl (Nat.le_of_ble_eq_true rfl) rfl rfl ?_
                            refine g_pop (n := 447) d_L_law_446 rfl rfl ?_
                            refine g_aload_n (n := 448) d_L_law_447 rfl 2 rfl rfl ?_
                            refine g_aload_n (n := 449) d_L_law_448 rfl 0 rfl rfl ?_
                            refine g_iload (n := 451) d_L_law_449 rfl 4 rfl ?_
                            refine g_iconst (n := 452) (v := 1) d_L_law_451 rfl (by decide) ?_
                            refine g_iadd (n := 453) d_L_law_452 rfl ?_
                            obtain ⟨b83, hf⟩ := ob_chk hf
                            refine g_sld (n := 454) d_L_law_453 rfl rfl (am_inl b83) (Nat.le_of_ble_eq_true rfl) ?_
                            obtain ⟨r84, h85, hf⟩ := ob_bind hf
                            refine c_Vl (n := 457) (st' := [.int r84.1]) [.int (xs9 (x4 + 1).toNatClampNeg)] [] d_L_law_454 rfl (t_M_cut htr h85 rfl) tw_1111 tw_1112 tw_1113 tw_8 tw_1114 hd_M_cut ⟨Nat.le_of_ble_eq_true rfl, Nat.le_of_ble_eq_true rfl⟩ (Nat.le_trans (by omega : nc ≤ nc + (fuel + 1)) hq) (Nat.le_trans (by omega : ns ≤ ns + 6 * (fuel + 1)) hq2) (ci := 7) rfl rfl rfl (Nat.le_of_ble_eq_true rfl) rfl rfl ?_
                            refine g_pop (n := 458) d_L_law_457 rfl rfl ?_
                            refine g_goto (n := 601) d_L_law_458 (by decide) ?_
                            refine g_iinc (n := 604) (v := (x4 + 5)) (ls' := [(4, .int (x4 + 5)), (0, .ref 99), (1, .ref 0), (2, .ref 18), (3, .ref 28)]) d_L_law_601 rfl 4 rfl rfl (am_ltb rfl) rfl ?_
                            refine g_goto (n := 23) d_L_law_604 (by decide) ?_
                            refine g_ls [1, 2, 3, 4, 0] rfl ?_
                            exact ih nc ns (g.1, g.2.1, g.2.2.1, g.2.2.2.1, g.2.2.2.2.1, g.2.2.2.2.2.1, g.2.2.2.2.2.2.1, r81.2.1, r81.2.2, g.2.2.2.2.2.2.2.2.2) li su ct lc ad ctb lcb adb fx us ln pt tx br rw (w.1, w.2.1, w.2.2.1, r84.2.1, w.2.2.2.2.1, w.2.2.2.2.2.1, w.2.2.2.2.2.2.1, w.2.2.2.2.2.2.2.1, w.2.2.2.2.2.2.2.2) r84.2.2 sp mp mf ml ps nm mu ch wy nx ou (x4 + 5) _ (Nat.le_trans (by omega : nc + fuel ≤ nc + (fuel + 1)) hq) (Nat.le_trans (by omega : ns + 6 * fuel ≤ ns + 6 * (fuel + 1)) hq2) hf _ rfl
                          · have hf := ob_neg q79 hf
                            by_cases q86 : ((xs9 x4.toNatClampNeg) &&& 15) = 11
                            · have hf := ob_pos q86 hf
                              refine g_tabIn (n := 461) d_L_law_39 (by rw [q86]; decide) (by rw [q86]; decide) (by rw [q86]; rfl) (by decide) ?_
                              refine g_aload_n (n := 462) d_L_law_461 rfl 1 rfl rfl ?_
                              obtain ⟨r87, h88, hf⟩ := ob_bind hf
                              refine c_Vl (n := 465) (st' := [.int r87.1]) [] [] d_L_law_462 rfl (s_V_power htr h88 rfl) tw_246 tw_247 tw_248 tw_1 tw_249 hd_V_power ⟨Nat.le_of_ble_eq_true rfl, Nat.le_of_ble_eq_true rfl⟩ (Nat.le_trans (by omega : nc ≤ nc + (fuel + 1)) hq) (Nat.le_trans (by omega : ns ≤ ns + 6 * (fuel + 1)) hq2) (ci := 6) rfl rfl rfl (Nat.le_of_ble_eq_true rfl) rfl rfl ?_
                              refine g_pop (n := 466) d_L_law_465 rfl rfl ?_
                              refine g_aload_n (n := 467) d_L_law_466 rfl 2 rfl rfl ?_
                              obtain ⟨r89, h90, hf⟩ := ob_bind hf
                              refine c_Vl (n := 470) (st' := [.int r89.1]) [] [] d_L_law_467 rfl (t_M_power htr h90 rfl) tw_1115 tw_1116 tw_1117 tw_8 tw_1118 hd_M_power ⟨Nat.le_of_ble_eq_true rfl, Nat.le_of_ble_eq_true rfl⟩ (Nat.le_trans (by omega : nc ≤ nc + (fuel + 1)) hq) (Nat.le_trans (by omega : ns ≤ ns + 6 * (fuel + 1)) hq2) (ci := 7) rfl rfl rfl (Nat.le_of_ble_eq_true rfl) rfl rfl ?_
                              refine g_pop (n := 471) d_L_law_470 rfl rfl ?_
                              refine g_goto (n := 601) d_L_law_471 (by decide) ?_
                              refine g_iinc (n := 604) (v := (x4 + 5)) (ls' := [(4, .int (x4 + 5)), (0, .ref 99), (1, .ref 0), (2, .ref 18), (3, .ref 28)]) d_L_law_601 rfl 4 rfl rfl (am_ltb rfl) rfl ?_
                              refine g_goto (n := 23) d_L_law_604 (by decide) ?_
                              refine g_ls [1, 2, 3, 4, 0] rfl ?_
                              exact ih nc ns (g.1, g.2.1, g.2.2.1, g.2.2.2.1, g.2.2.2.2.1, r87.2, g.2.2.2.2.2.2.1, g.2.2.2.2.2.2.2.1, g.2.2.2.2.2.2.2.2.1, g.2.2.2.2.2.2.2.2.2) li su ct lc ad ctb lcb adb fx us ln pt tx br rw (r89.2.1, w.2.1, w.2.2.1, w.2.2.2.1, w.2.2.2.2.1, w.2.2.2.2.2.1, w.2.2.2.2.2.2.1, w.2.2.2.2.2.2.2.1, w.2.2.2.2.2.2.2.2) r89.2.2 sp mp mf ml ps nm mu ch wy nx ou (x4 + 5) _ (Nat.le_trans (by omega : nc + fuel ≤ nc + (fuel + 1)) hq) (Nat.le_trans (by omega : ns + 6 * fuel ≤ ns + 6 * (fuel + 1)) hq2) hf _ rfl
                            · have hf := ob_neg q86 hf
                              by_cases q91 : ((xs9 x4.toNatClampNeg) &&& 15) = 12
                              · have hf := ob_pos q91 hf
                                refine g_tabIn (n := 474) d_L_law_39 (by rw [q91]; decide) (by rw [q91]; decide) (by rw [q91]; rfl) (by decide) ?_
                                refine g_aload_n (n := 475) d_L_law_474 rfl 1 rfl rfl ?_
                                refine g_aload_n (n := 476) d_L_law_475 rfl 3 rfl rfl ?_
                                obtain ⟨r92, h93, hf⟩ := ob_bind hf
                                refine c_SWl (n := 479) (st' := [.int r92.1]) [.ref 0, .ref 28] [] d_L_law_476 rfl (s_H_repair htr h93 rfl) tw_778 tw_779 tw_0 tw_780 hd_L_repair ⟨Nat.le_of_ble_eq_true rfl, Nat.le_of_ble_eq_true rfl⟩ (Nat.le_trans (by omega : nc + 1 ≤ nc + (fuel + 1)) hq) (Nat.le_trans (by omega : ns + 6 ≤ ns + 6 * (fuel + 1)) hq2) rfl (Nat.le_of_ble_eq_true rfl) rfl rfl ?_
                                refine g_istore (n := 481) (ls' := [(5, .int r92.1), (0, .ref 99), (1, .ref 0), (2, .ref 18), (3, .ref 28), (4, .int x4)]) d_L_law_479 rfl (am_ltb rfl) rfl ?_
                                refine g_aload_n (n := 482) d_L_law_481 rfl 3 rfl rfl ?_
                                obtain ⟨r94, h95, hf⟩ := ob_bind hf
                                refine c_Vl (n := 485) (st' := [.int r94.1]) [] [] d_L_law_482 rfl (t_M_repair htr h95 rfl) tw_1119 tw_1120 tw_1121 tw_8 tw_1122 hd_M_repair ⟨Nat.le_of_ble_eq_true rfl, Nat.le_of_ble_eq_true rfl⟩ (Nat.le_trans (by omega : nc + 1 ≤ nc + (fuel + 1)) hq) (Nat.le_trans (by omega : ns + 6 ≤ ns + 6 * (fuel + 1)) hq2) (ci := 7) rfl rfl rfl (Nat.le_of_ble_eq_true rfl) rfl rfl ?_
                                refine g_istore (n := 487) (ls' := [(6, .int r94.1), (5, .int r92.1), (0, .ref 99), (1, .ref 0), (2, .ref 18), (3, .ref 28), (4, .int x4)]) d_L_law_485 rfl (am_ltb rfl) rfl ?_
                                refine g_goto (n := 601) d_L_law_487 (by decide) ?_
                                refine g_iinc (n := 604) (v := (x4 + 5)) (ls' := [(4, .int (x4 + 5)), (6, .int r94.1), (5, .int r92.1), (0, .ref 99), (1, .ref 0), (2, .ref 18), (3, .ref 28)]) d_L_law_601 rfl 6 rfl rfl (am_ltb rfl) rfl ?_
                                refine g_goto (n := 23) d_L_law_604 (by decide) ?_
                                refine g_ls [3, 4, 5, 6, 0] rfl ?_
                                exact ih (nc + 1) (ns + 6) r92.2.2.1 li r92.2.2.2.1 r92.2.2.2.2.1 r92.2.2.2.2.2.1 r92.2.2.2.2.2.2.1 ctb lcb adb r92.2.2.2.2.2.2.2.1 r92.2.2.2.2.2.2.2.2 ln pt tx br rw r94.2.1 r94.2.2.1 r94.2.2.2.1 mp r94.2.2.2.2.1 ml ps nm r94.2.2.2.2.2.1 r94.2.2.2.2.2.2.1 r94.2.2.2.2.2.2.2.1 r94.2.2.2.2.2.2.2.2 r92.2.1 (x4 + 5) _ (Nat.le_trans (by omega : nc + 1 + fuel ≤ nc + (fuel + 1)) hq) (Nat.le_trans (by omega : ns + 6 + 6 * fuel ≤ ns + 6 * (fuel + 1)) hq2) hf _ rfl
                              · have hf := ob_neg q91 hf
                                by_cases q96 : ((xs9 x4.toNatClampNeg) &&& 15) = 13
                                · have hf := ob_pos q96 hf
                                  refine g_tabIn (n := 490) d_L_law_39 (by rw [q96]; decide) (by rw [q96]; decide) (by rw [q96]; rfl) (by decide) ?_
                                  refine g_aload_n (n := 491) d_L_law_490 rfl 1 rfl rfl ?_
                                  refine g_aload_n (n := 492) d_L_law_491 rfl 0 rfl rfl ?_
                                  refine g_iload (n := 494) d_L_law_492 rfl 4 rfl ?_
                                  refine g_iconst (n := 495) (v := 1) d_L_law_494 rfl (by decide) ?_
                                  refine g_iadd (n := 496) d_L_law_495 rfl ?_
                                  obtain ⟨b97, hf⟩ := ob_chk hf
                                  refine g_sld (n := 497) d_L_law_496 rfl rfl (am_inl b97) (Nat.le_of_ble_eq_true rfl) ?_
                                  refine g_aload_n (n := 498) d_L_law_497 rfl 0 rfl rfl ?_
                                  refine g_iload (n := 500) d_L_law_498 rfl 4 rfl ?_
                                  refine g_iconst (n := 501) (v := 2) d_L_law_500 rfl (by decide) ?_
                                  refine g_iadd (n := 502) d_L_law_501 rfl ?_
                                  obtain ⟨b98, hf⟩ := ob_chk hf
                                  refine g_sld (n := 503) d_L_law_502 rfl rfl (am_inl b98) (Nat.le_of_ble_eq_true rfl) ?_
                                  obtain ⟨r99, h100, hf⟩ := ob_bind hf
                                  refine c_Vl (n := 506) (st' := [.int r99]) [.int (xs9 (x4 + 1).toNatClampNeg), .int (xs9 (x4 + 2).toNatClampNeg)] [] d_L_law_503 rfl (s_V_octet htr h100 rfl) tw_254 tw_255 tw_256 tw_1 tw_257 hd_V_octet ⟨Nat.le_of_ble_eq_true rfl, Nat.le_of_ble_eq_true rfl⟩ (Nat.le_trans (by omega : nc ≤ nc + (fuel + 1)) hq) (Nat.le_trans (by omega : ns ≤ ns + 6 * (fuel + 1)) hq2) (ci := 6) rfl rfl rfl (Nat.le_of_ble_eq_true rfl) rfl rfl ?_
                                  refine g_pop (n := 507) d_L_law_506 rfl rfl ?_
                                  refine g_aload_n (n := 508) d_L_law_507 rfl 2 rfl rfl ?_
                                  refine g_aload_n (n := 509) d_L_law_508 rfl 0 rfl rfl ?_
                                  refine g_iload (n := 511) d_L_law_509 rfl 4 rfl ?_
                                  refine g_iconst (n := 512) (v := 1) d_L_law_511 rfl (by decide) ?_
                                  refine g_iadd (n := 513) d_L_law_512 rfl ?_
                                  obtain ⟨b101, hf⟩ := ob_chk hf
                                  refine g_sld (n := 514) d_L_law_513 rfl rfl (am_inl b101) (Nat.le_of_ble_eq_true rfl) ?_
                                  refine g_aload_n (n := 515) d_L_law_514 rfl 0 rfl rfl ?_
                                  refine g_iload (n := 517) d_L_law_515 rfl 4 rfl ?_
                                  refine g_iconst (n := 518) (v := 2) d_L_law_517 rfl (by decide) ?_
                                  refine g_iadd (n := 519) d_L_law_518 rfl ?_
                                  obtain ⟨b102, hf⟩ := ob_chk hf
                                  refine g_sld (n := 520) d_L_law_519 rfl rfl (am_inl b102) (Nat.le_of_ble_eq_true rfl) ?_
                                  obtain ⟨r103, h104, hf⟩ := ob_bind hf
                                  refine c_Vl (n := 523) (st' := [.int r103.1]) [.int (xs9 (x4 + 1).toNatClampNeg), .int (xs9 (x4 + 2).toNatClampNeg)] [] d_L_law_520 rfl (t_M_octet htr h104 rfl) tw_1152 tw_1153 tw_1154 tw_8 tw_1155 hd_M_octet ⟨Nat.le_of_ble_eq_true rfl, Nat.le_of_ble_eq_true rfl⟩ (Nat.le_trans (by omega : nc ≤ nc + (fuel + 1)) hq) (Nat.le_trans (by omega : ns ≤ ns + 6 * (fuel + 1)) hq2) (ci := 7) rfl rfl rfl (Nat.le_of_ble_eq_true rfl) rfl rfl ?_
                                  refine g_pop (n := 524) d_L_law_523 rfl rfl ?_
                                  refine g_goto (n := 601) d_L_law_524 (by decide) ?_
                                  refine g_iinc (n := 604) (v := (x4 + 5)) (ls' := [(4, .int (x4 + 5)), (0, .ref 99), (1, .ref 0), (2, .ref 18), (3, .ref 28)]) d_L_law_601 rfl 4 rfl rfl (am_ltb rfl) rfl ?_
                                  refine g_goto (n := 23) d_L_law_604 (by decide) ?_
                                  refine g_ls [1, 2, 3, 4, 0] rfl ?_
                                  exact ih nc ns g li su ct lc ad ctb lcb adb fx us ln pt tx br rw w r103.2 sp mp mf ml ps nm mu ch wy nx ou (x4 + 5) _ (Nat.le_trans (by omega : nc + fuel ≤ nc + (fuel + 1)) hq) (Nat.le_trans (by omega : ns + 6 * fuel ≤ ns + 6 * (fuel + 1)) hq2) hf _ rfl
                                · have hf := ob_neg q96 hf
                                  by_cases q105 : ((xs9 x4.toNatClampNeg) &&& 15) = 14
                                  · have hf := ob_pos q105 hf
                                    refine g_tabIn (n := 527) d_L_law_39 (by rw [q105]; decide) (by rw [q105]; decide) (by rw [q105]; rfl) (by decide) ?_
                                    refine g_aload_n (n := 528) d_L_law_527 rfl 1 rfl rfl ?_
                                    refine g_aload_n (n := 529) d_L_law_528 rfl 0 rfl rfl ?_
                                    refine g_iload (n := 531) d_L_law_529 rfl 4 rfl ?_
                                    refine g_iconst (n := 532) (v := 1) d_L_law_531 rfl (by decide) ?_
                                    refine g_iadd (n := 533) d_L_law_532 rfl ?_
                                    obtain ⟨b106, hf⟩ := ob_chk hf
                                    refine g_sld (n := 534) d_L_law_533 rfl rfl (am_inl b106) (Nat.le_of_ble_eq_true rfl) ?_
                                    refine g_aload_n (n := 535) d_L_law_534 rfl 0 rfl rfl ?_
                                    refine g_iload (n := 537) d_L_law_535 rfl 4 rfl ?_
                                    refine g_iconst (n := 538) (v := 2) d_L_law_537 rfl (by decide) ?_
                                    refine g_iadd (n := 539) d_L_law_538 rfl ?_
                                    obtain ⟨b107, hf⟩ := ob_chk hf
                                    refine g_sld (n := 540) d_L_law_539 rfl rfl (am_inl b107) (Nat.le_of_ble_eq_true rfl) ?_
                                    refine g_aload_n (n := 541) d_L_law_540 rfl 0 rfl rfl ?_
                                    refine g_iload (n := 543) d_L_law_541 rfl 4 rfl ?_
                                    refine g_iconst (n := 544) (v := 3) d_L_law_543 rfl (by decide) ?_
                                    refine g_iadd (n := 545) d_L_law_544 rfl ?_
                                    obtain ⟨b108, hf⟩ := ob_chk hf
                                    refine g_sld (n := 546) d_L_law_545 rfl rfl (am_inl b108) (Nat.le_of_ble_eq_true rfl) ?_
                                    obtain ⟨r109, h110, hf⟩ := ob_bind hf
                                    refine c_Vl (n := 549) (st' := [.int r109.1]) [.int (xs9 (x4 + 1).toNatClampNeg), .int (xs9 (x4 + 2).toNatClampNeg), .int (xs9 (x4 + 3).toNatClampNeg)] [] d_L_law_546 rfl (s_V_poke htr h110 rfl) tw_265 tw_266 tw_267 tw_1 tw_268 hd_V_poke ⟨Nat.le_of_ble_eq_true rfl, Nat.le_of_ble_eq_true rfl⟩ (Nat.le_trans (by omega : nc ≤ nc + (fuel + 1)) hq) (Nat.le_trans (by omega : ns ≤ ns + 6 * (fuel + 1)) hq2) (ci := 6) rfl rfl rfl (Nat.le_of_ble_eq_true rfl) rfl rfl ?_
                                    refine g_aload_n (n := 550) d_L_law_549 rfl 2 rfl rfl ?_
                                    refine g_aload_n (n := 551) d_L_law_550 rfl 0 rfl rfl ?_
                                    refine g_iload (n := 553) d_L_law_551 rfl 4 rfl ?_
                                    refine g_iconst (n := 554) (v := 1) d_L_law_553 rfl (by decide) ?_
                                    refine g_iadd (n := 555) d_L_law_554 rfl ?_
                                    obtain ⟨b111, hf⟩ := ob_chk hf
                                    refine g_sld (n := 556) d_L_law_555 rfl rfl (am_inl b111) (Nat.le_of_ble_eq_true rfl) ?_
                                    refine g_aload_n (n := 557) d_L_law_556 rfl 0 rfl rfl ?_
                                    refine g_iload (n := 559) d_L_law_557 rfl 4 rfl ?_
                                    refine g_iconst (n := 560) (v := 2) d_L_law_559 rfl (by decide) ?_
                                    refine g_iadd (n := 561) d_L_law_560 rfl ?_
                                    obtain ⟨b112, hf⟩ := ob_chk hf
                                    refine g_sld (n := 562) d_L_law_561 rfl rfl (am_inl b112) (Nat.le_of_ble_eq_true rfl) ?_
                                    refine g_aload_n (n := 563) d_L_law_562 rfl 0 rfl rfl ?_
                                    refine g_iload (n := 565) d_L_law_563 rfl 4 rfl ?_
                                    refine g_iconst (n := 566) (v := 3) d_L_law_565 rfl (by decide) ?_
                                    refine g_iadd (n := 567) d_L_law_566 rfl ?_
                                    obtain ⟨b113, hf⟩ := ob_chk hf
                                    refine g_sld (n := 568) d_L_law_567 rfl rfl (am_inl b113) (Nat.le_of_ble_eq_true rfl) ?_
                                    obtain ⟨r114, h115, hf⟩ := ob_bind hf
                                    refine c_Vl (n := 571) (st' := [.int r114.1, .int r109.1]) [.int (xs9 (x4 + 1).toNatClampNeg), .int (xs9 (x4 + 2).toNatClampNeg), .int (xs9 (x4 + 3).toNatClampNeg)] [.int r109.1] d_L_law_568 rfl (t_M_poke htr h115 rfl) tw_1156 tw_1157 tw_1158 tw_8 tw_1159 hd_M_poke ⟨Nat.le_of_ble_eq_true rfl, Nat.le_of_ble_eq_true rfl⟩ (Nat.le_trans (by omega : nc ≤ nc + (fuel + 1)) hq) (Nat.le_trans (by omega : ns ≤ ns + 6 * (fuel + 1)) hq2) (ci := 7) rfl rfl rfl (Nat.le_of_ble_eq_true rfl) rfl rfl ?_
                                    refine g_icmp_eq (n := 574) (tgt := 601) d_L_law_571 rfl (by decide) (fun q116 => ?_) (fun q116 => ?_)
                                    · have hf := ob_pos q116 hf
                                      refine g_iinc (n := 604) (v := (x4 + 5)) (ls' := [(4, .int (x4 + 5)), (0, .ref 99), (1, .ref 0), (2, .ref 18), (3, .ref 28)]) d_L_law_601 rfl 4 rfl rfl (am_ltb rfl) rfl ?_
                                      refine g_goto (n := 23) d_L_law_604 (by decide) ?_
                                      refine g_ls [1, 2, 3, 4, 0] rfl ?_
                                      exact ih nc ns (g.1, r109.2.1, r109.2.2.1, r109.2.2.2.1, r109.2.2.2.2.1, g.2.2.2.2.2.1, g.2.2.2.2.2.2.1, g.2.2.2.2.2.2.2.1, g.2.2.2.2.2.2.2.2.1, r109.2.2.2.2.2.2) li r109.2.2.2.2.2.1 ct lc ad ctb lcb adb fx us ln pt tx br rw (w.1, w.2.1, w.2.2.1, w.2.2.2.1, w.2.2.2.2.1, r114.2.1, r114.2.2.1, r114.2.2.2.1, r114.2.2.2.2.1) r114.2.2.2.2.2.1 r114.2.2.2.2.2.2 mp mf ml ps nm mu ch wy nx ou (x4 + 5) _ (Nat.le_trans (by omega : nc + fuel ≤ nc + (fuel + 1)) hq) (Nat.le_trans (by omega : ns + 6 * fuel ≤ ns + 6 * (fuel + 1)) hq2) hf _ rfl
                                    · have hf := ob_neg q116 hf
                                      refine g_iconst (n := 575) (v := 0) d_L_law_574 rfl (by decide) ?_
                                      cases hf
                                      exact g_zret d_L_law_575 rfl am_z0 (Nat.le_trans (by omega : nc ≤ nc + (fuel + 1)) hq) (Nat.le_trans (by omega : ns ≤ ns + 6 * (fuel + 1)) hq2)
                                  · have hf := ob_neg q105 hf
                                    by_cases q117 : ((xs9 x4.toNatClampNeg) &&& 15) = 15
                                    · have hf := ob_pos q117 hf
                                      refine g_tabIn (n := 576) d_L_law_39 (by rw [q117]; decide) (by rw [q117]; decide) (by rw [q117]; rfl) (by decide) ?_
                                      refine g_aload_n (n := 577) d_L_law_576 rfl 1 rfl rfl ?_
                                      refine g_aload_n (n := 578) d_L_law_577 rfl 0 rfl rfl ?_
                                      refine g_iload (n := 580) d_L_law_578 rfl 4 rfl ?_
                                      refine g_iconst (n := 581) (v := 1) d_L_law_580 rfl (by decide) ?_
                                      refine g_iadd (n := 582) d_L_law_581 rfl ?_
                                      obtain ⟨b118, hf⟩ := ob_chk hf
                                      refine g_sld (n := 583) d_L_law_582 rfl rfl (am_inl b118) (Nat.le_of_ble_eq_true rfl) ?_
                                      obtain ⟨r119, h120, hf⟩ := ob_bind hf
                                      refine c_Vl (n := 586) (st' := [.int r119]) [.int (xs9 (x4 + 1).toNatClampNeg)] [] d_L_law_583 rfl (s_V_look htr h120 rfl) tw_274 tw_275 tw_276 tw_1 tw_277 hd_V_look ⟨Nat.le_of_ble_eq_true rfl, Nat.le_of_ble_eq_true rfl⟩ (Nat.le_trans (by omega : nc ≤ nc + (fuel + 1)) hq) (Nat.le_trans (by omega : ns ≤ ns + 6 * (fuel + 1)) hq2) (ci := 6) rfl rfl rfl (Nat.le_of_ble_eq_true rfl) rfl rfl ?_
                                      refine g_pop (n := 587) d_L_law_586 rfl rfl ?_
                                      refine g_aload_n (n := 588) d_L_law_587 rfl 2 rfl rfl ?_
                                      refine g_aload_n (n := 589) d_L_law_588 rfl 0 rfl rfl ?_
                                      refine g_iload (n := 591) d_L_law_589 rfl 4 rfl ?_
                                      refine g_iconst (n := 592) (v := 1) d_L_law_591 rfl (by decide) ?_
                                      refine g_iadd (n := 593) d_L_law_592 rfl ?_
                                      obtain ⟨b121, hf⟩ := ob_chk hf
                                      refine g_sld (n := 594) d_L_law_593 rfl rfl (am_inl b121) (Nat.le_of_ble_eq_true rfl) ?_
                                      obtain ⟨r122, h123, hf⟩ := ob_bind hf
                                      refine c_Vl (n := 597) (st' := [.int r122.1]) [.int (xs9 (x4 + 1).toNatClampNeg)] [] d_L_law_594 rfl (t_M_look htr h123 rfl) tw_1160 tw_1161 tw_1162 tw_8 tw_1163 hd_M_look ⟨Nat.le_of_ble_eq_true rfl, Nat.le_of_ble_eq_true rfl⟩ (Nat.le_trans (by omega : nc ≤ nc + (fuel + 1)) hq) (Nat.le_trans (by omega : ns ≤ ns + 6 * (fuel + 1)) hq2) (ci := 7) rfl rfl rfl (Nat.le_of_ble_eq_true rfl) rfl rfl ?_
                                      refine g_pop (n := 598) d_L_law_597 rfl rfl ?_
                                      refine g_goto (n := 601) d_L_law_598 (by decide) ?_
                                      refine g_iinc (n := 604) (v := (x4 + 5)) (ls' := [(4, .int (x4 + 5)), (0, .ref 99), (1, .ref 0), (2, .ref 18), (3, .ref 28)]) d_L_law_601 rfl 4 rfl rfl (am_ltb rfl) rfl ?_
                                      refine g_goto (n := 23) d_L_law_604 (by decide) ?_
                                      refine g_ls [1, 2, 3, 4, 0] rfl ?_
                                      exact ih nc ns g li su ct lc ad ctb lcb adb fx us ln pt tx br rw w r122.2 sp mp mf ml ps nm mu ch wy nx ou (x4 + 5) _ (Nat.le_trans (by omega : nc + fuel ≤ nc + (fuel + 1)) hq) (Nat.le_trans (by omega : ns + 6 * fuel ≤ ns + 6 * (fuel + 1)) hq2) hf _ rfl
                                    · have hf := ob_neg q117 hf
                                      refine g_tabOut (n := 601) d_L_law_39 (by have z0 := lv_neT q3 (a := 0) (by decide); have z1 := lv_neT q10 (a := 1) (by decide); have z2 := lv_neT q17 (a := 2) (by decide); have z3 := lv_neT q22 (a := 3) (by decide); have z4 := lv_neT q27 (a := 4) (by decide); have z5 := lv_neT q32 (a := 5) (by decide); have z6 := lv_neT q39 (a := 6) (by decide); have z7 := lv_neT q48 (a := 7) (by decide); have z8 := lv_neT q57 (a := 8) (by decide); have z9 := lv_neT q70 (a := 9) (by decide); have z10 := lv_neT q79 (a := 10) (by decide); have z11 := lv_neT q86 (a := 11) (by decide); have z12 := lv_neT q91 (a := 12) (by decide); have z13 := lv_neT q96 (a := 13) (by decide); have z14 := lv_neT q105 (a := 14) (by decide); have z15 := lv_neT q117 (a := 15) (by decide); omega) (by decide) ?_
                                      refine g_iinc (n := 604) (v := (x4 + 5)) (ls' := [(4, .int (x4 + 5)), (0, .ref 99), (1, .ref 0), (2, .ref 18), (3, .ref 28)]) d_L_law_601 rfl 4 rfl rfl (am_ltb rfl) rfl ?_
                                      refine g_goto (n := 23) d_L_law_604 (by decide) ?_
                                      refine g_ls [1, 2, 3, 4, 0] rfl ?_
                                      exact ih nc ns g li su ct lc ad ctb lcb adb fx us ln pt tx br rw w th sp mp mf ml ps nm mu ch wy nx ou (x4 + 5) _ (Nat.le_trans (by omega : nc + fuel ≤ nc + (fuel + 1)) hq) (Nat.le_trans (by omega : ns + 6 * fuel ≤ ns + 6 * (fuel + 1)) hq2) hf _ rfl
def i0_ll : Int32 := 0
def i0_he : Int32 := 2
def i0_de : Int32 := 1
def i0_li : Nat → Int32 := (fun _ => 0)
def i0_en : Nat → Int32 := (upd (upd (upd (upd (fun _ => 0) (0 : Int32).toNatClampNeg (-1)) (1 : Int32).toNatClampNeg (-1)) (2 : Int32).toNatClampNeg (-1)) (3 : Int32).toNatClampNeg (-1))
def i0_po : Nat → Int32 := (upd (upd (upd (upd (fun _ => 0) (0 : Int32).toNatClampNeg 0) (1 : Int32).toNatClampNeg 0) (2 : Int32).toNatClampNeg 0) (3 : Int32).toNatClampNeg 0)
def i0_pw : Int32 := 1
def i0_su : Int32 := 0
def i0_wr : Int32 := 0
def i0_cs : Int32 := 0
def i0_wb : Int32 := 0
def i0_bt : Nat → Int32 := (upd (upd (upd (upd (upd (upd (upd (upd (upd (upd (upd (upd (fun _ => 0) (0 : Int32).toNatClampNeg 255) ((128 + 0) : Int32).toNatClampNeg 255) (1 : Int32).toNatClampNeg 255) ((128 + 1) : Int32).toNatClampNeg 255) (2 : Int32).toNatClampNeg 255) ((128 + 2) : Int32).toNatClampNeg 255) (3 : Int32).toNatClampNeg 255) ((128 + 3) : Int32).toNatClampNeg 255) (4 : Int32).toNatClampNeg 255) ((128 + 4) : Int32).toNatClampNeg 255) (5 : Int32).toNatClampNeg 255) ((128 + 5) : Int32).toNatClampNeg 255)
def i0_ct : Int32 := 0
def i0_lc : Int32 := 0
def i0_ad : Nat → Int32 := (fun _ => 0)
def i0_ctb : Int32 := 0
def i0_lcb : Int32 := 0
def i0_adb : Nat → Int32 := (fun _ => 0)
def i0_fx : Int32 := 0
def i0_us : Nat → Int32 := (fun _ => 0)
def i0_ln : Int32 := 0
def i0_pt : Int32 := 0
def i0_tx : Nat → Int32 := (fun _ => 0)
def i0_br : Nat → Int32 := (fun _ => 0)
def i0_rw : Nat → Int32 := (fun _ => 0)
def i0_on : Int32 := 1
def i0_dd : Int32 := 0
def i0_mw : Int32 := 0
def i0_cu : Int32 := (-1)
def i0_ty : Int32 := 0
def i0_mh : Int32 := 2
def i0_md : Int32 := 1
def i0_dk : Nat → Int32 := (upd (upd (upd (upd (upd (upd (upd (upd (upd (upd (upd (upd (fun _ => 0) ((2 * 0) : Int32).toNatClampNeg (65535 &&& 255)) (((2 * 0) + 1) : Int32).toNatClampNeg (((65535 : Int32) >>> ((8 : Int32) &&& 31)) &&& 255)) ((128 + (2 * 0)) : Int32).toNatClampNeg (65535 &&& 255)) (((128 + (2 * 0)) + 1) : Int32).toNatClampNeg (((65535 : Int32) >>> ((8 : Int32) &&& 31)) &&& 255)) ((2 * 1) : Int32).toNatClampNeg (65535 &&& 255)) (((2 * 1) + 1) : Int32).toNatClampNeg (((65535 : Int32) >>> ((8 : Int32) &&& 31)) &&& 255)) ((128 + (2 * 1)) : Int32).toNatClampNeg (65535 &&& 255)) (((128 + (2 * 1)) + 1) : Int32).toNatClampNeg (((65535 : Int32) >>> ((8 : Int32) &&& 31)) &&& 255)) ((2 * 2) : Int32).toNatClampNeg (65535 &&& 255)) (((2 * 2) + 1) : Int32).toNatClampNeg (((65535 : Int32) >>> ((8 : Int32) &&& 31)) &&& 255)) ((128 + (2 * 2)) : Int32).toNatClampNeg (65535 &&& 255)) (((128 + (2 * 2)) + 1) : Int32).toNatClampNeg (((65535 : Int32) >>> ((8 : Int32) &&& 31)) &&& 255))
def i0_op : Nat → Int32 := (fun _ => 0)
def i0_th : Int32 := 0
def i0_sp : Int32 := 0
def i0_mp : Int32 := 0
def i0_mf : Int32 := 0
def i0_ml : Nat → Int32 := (fun _ => 0)
def i0_ps : Nat → Int32 := (fun _ => 0)
def i0_nm : Nat → Int32 := (fun _ => 0)
def i0_mu : Nat → Int32 := (fun _ => 0)
def i0_ch : Nat → Int32 := (fun _ => 0)
def i0_wy : Nat → Int32 := (fun _ => 0)
def i0_nx : Nat → Int32 := (fun _ => 0)
def i0_ou : Nat → Int64 := (fun _ => 0)
def i0_g : am_WS := (i0_ll, i0_he, i0_de, i0_en, i0_po, i0_pw, i0_wr, i0_cs, i0_wb, i0_bt)
def i0_w : am_MS := (i0_on, i0_dd, i0_mw, i0_cu, i0_ty, i0_mh, i0_md, i0_dk, i0_op)
set_option maxHeartbeats 8000000 in
set_option maxRecDepth 100000 in
theorem s_law {l : Launch} {D : va_G} {dA : FieldType → ClassId} (htr : l.stackTraces = false) {L9 : Nat} {xs9 : Nat → Int32} {nm9 : String} {tb9 : List ExceptionTableEntry} {r : Int32 × am_WS × (Nat → Int32) × Int32 × Int32 × Int32 × (Nat → Int32) × Int32 × Int32 × (Nat → Int32) × Int32 × (Nat → Int32) × Int32 × Int32 × (Nat → Int32) × (Nat → Int32) × (Nat → Int32) × am_MS × Int32 × Int32 × Int32 × Int32 × (Nat → Int32) × (Nat → Int32) × (Nat → Int32) × (Nat → Int32) × (Nat → Int32) × (Nat → Int32) × (Nat → Int32) × (Nat → Int64)} (hf : f_L_law_L23 L9 xs9 600 i0_g i0_li i0_su i0_ct i0_lc i0_ad i0_ctb i0_lcb i0_adb i0_fx i0_us i0_ln i0_pt i0_tx i0_br i0_rw i0_w i0_th i0_sp i0_mp i0_mf i0_ml i0_ps i0_nm i0_mu i0_ch i0_wy i0_nx i0_ou 0 = some r) :
    am_G (am_kk l D dA) (ws_L, "FileVolumeLaw", code, 8, some .boolean, nm9, tb9, room_1, some (L9, xs9)) (.inl (some (.int r.1))) (hL r.2.1.1 r.2.1.2.1 r.2.1.2.2.1 r.2.2.1 r.2.1.2.2.2.1 r.2.1.2.2.2.2.1 r.2.1.2.2.2.2.2.1 r.2.2.2.1 r.2.1.2.2.2.2.2.2.1 r.2.1.2.2.2.2.2.2.2.1 r.2.1.2.2.2.2.2.2.2.2.1 r.2.1.2.2.2.2.2.2.2.2.2 r.2.2.2.2.1 r.2.2.2.2.2.1 r.2.2.2.2.2.2.1 r.2.2.2.2.2.2.2.1 r.2.2.2.2.2.2.2.2.1 r.2.2.2.2.2.2.2.2.2.1 r.2.2.2.2.2.2.2.2.2.2.1 r.2.2.2.2.2.2.2.2.2.2.2.1 r.2.2.2.2.2.2.2.2.2.2.2.2.1 r.2.2.2.2.2.2.2.2.2.2.2.2.2.1 r.2.2.2.2.2.2.2.2.2.2.2.2.2.2.1 r.2.2.2.2.2.2.2.2.2.2.2.2.2.2.2.1 r.2.2.2.2.2.2.2.2.2.2.2.2.2.2.2.2.1 r.2.2.2.2.2.2.2.2.2.2.2.2.2.2.2.2.2.1.1 r.2.2.2.2.2.2.2.2.2.2.2.2.2.2.2.2.2.1.2.1 r.2.2.2.2.2.2.2.2.2.2.2.2.2.2.2.2.2.1.2.2.1 r.2.2.2.2.2.2.2.2.2.2.2.2.2.2.2.2.2.1.2.2.2.1 r.2.2.2.2.2.2.2.2.2.2.2.2.2.2.2.2.2.1.2.2.2.2.1 r.2.2.2.2.2.2.2.2.2.2.2.2.2.2.2.2.2.1.2.2.2.2.2.1 r.2.2.2.2.2.2.2.2.2.2.2.2.2.2.2.2.2.1.2.2.2.2.2.2.1 r.2.2.2.2.2.2.2.2.2.2.2.2.2.2.2.2.2.1.2.2.2.2.2.2.2.1 r.2.2.2.2.2.2.2.2.2.2.2.2.2.2.2.2.2.1.2.2.2.2.2.2.2.2 r.2.2.2.2.2.2.2.2.2.2.2.2.2.2.2.2.2.2.1 r.2.2.2.2.2.2.2.2.2.2.2.2.2.2.2.2.2.2.2.1 r.2.2.2.2.2.2.2.2.2.2.2.2.2.2.2.2.2.2.2.2.1 r.2.2.2.2.2.2.2.2.2.2.2.2.2.2.2.2.2.2.2.2.2.1 r.2.2.2.2.2.2.2.2.2.2.2.2.2.2.2.2.2.2.2.2.2.2.1 r.2.2.2.2.2.2.2.2.2.2.2.2.2.2.2.2.2.2.2.2.2.2.2.1 r.2.2.2.2.2.2.2.2.2.2.2.2.2.2.2.2.2.2.2.2.2.2.2.2.1 r.2.2.2.2.2.2.2.2.2.2.2.2.2.2.2.2.2.2.2.2.2.2.2.2.2.1 r.2.2.2.2.2.2.2.2.2.2.2.2.2.2.2.2.2.2.2.2.2.2.2.2.2.2.1 r.2.2.2.2.2.2.2.2.2.2.2.2.2.2.2.2.2.2.2.2.2.2.2.2.2.2.2.1 r.2.2.2.2.2.2.2.2.2.2.2.2.2.2.2.2.2.2.2.2.2.2.2.2.2.2.2.2.1 r.2.2.2.2.2.2.2.2.2.2.2.2.2.2.2.2.2.2.2.2.2.2.2.2.2.2.2.2.2) 0 0 0 [(0, .ref 99)] [] [] := by
  refine g_new (n := 3) (ci := 6) (N := 8) (fs := [.null, .null, .null, .null, .null, .null, .null, .null]) (ty0 := ft_V) (nh := 0) (h' := [.inr (6, [.null, .null, .null, .null, .null, .null, .null, .null])]) d_L_law_0 rfl (fun w z => List.mem_cons_of_mem _ (in_V w z)) rfl typ_V.1 (List.mem_cons_of_mem _ tw_18) (List.mem_cons_of_mem _ tw_19) (List.mem_cons_of_mem _ tw_1) df_V (Nat.le_of_ble_eq_true rfl) (Nat.le_of_ble_eq_true rfl) rfl (fun _ _ => rfl) rfl rfl ?_
  refine g_dup (n := 4) d_L_law_3 rfl rfl ?_
  refine g_callI (n := 7) (q0 := 0) [] [.ref 0] d_L_law_4 rfl s_I9 (am_gdC tw_22) rfl (List.mem_cons_of_mem _ tw_1) (List.mem_cons_of_mem _ tw_20) (List.mem_cons_of_mem _ tw_21) rfl hd_V_init ⟨Nat.le_of_ble_eq_true rfl, Nat.le_of_ble_eq_true rfl⟩ ⟨Nat.le_of_ble_eq_true rfl, Nat.le_of_ble_eq_true rfl⟩ rfl (Nat.le_of_ble_eq_true rfl) rfl rfl ?_
  refine g_astore_n (n := 8) (ls' := [(1, .ref 0), (0, .ref 99)]) d_L_law_7 rfl rfl (am_ltb rfl) rfl ?_
  refine g_new (n := 11) (ci := 7) (N := 20) (fs := [.int 0, .null, .int 0, .int 0, .int 0, .int 0, .int 0, .null, .int 0, .int 0, .int 0, .null, .null, .null, .int 0, .null, .null, .null, .null, .int 0]) (ty0 := ft_M) (nh := 18) (h' := (hV0 ++ [.inr (7, [.int 0, .null, .int 0, .int 0, .int 0, .int 0, .int 0, .null, .int 0, .int 0, .int 0, .null, .null, .null, .int 0, .null, .null, .null, .null, .int 0])])) d_L_law_8 rfl (fun w z => List.mem_cons_of_mem _ (in_M w z)) rfl typ_M.1 (List.mem_cons_of_mem _ tw_854) (List.mem_cons_of_mem _ tw_855) (List.mem_cons_of_mem _ tw_8) df_M (Nat.le_of_ble_eq_true rfl) (Nat.le_of_ble_eq_true rfl) rfl (fun _ _ => rfl) rfl rfl ?_
  refine g_dup (n := 12) d_L_law_11 rfl rfl ?_
  refine g_callI (n := 15) (q0 := 18) [] [.ref 18] d_L_law_12 rfl s_I16 (am_gdC tw_858) rfl (List.mem_cons_of_mem _ tw_8) (List.mem_cons_of_mem _ tw_856) (List.mem_cons_of_mem _ tw_857) rfl hd_M_init ⟨Nat.le_of_ble_eq_true rfl, Nat.le_of_ble_eq_true rfl⟩ ⟨Nat.le_of_ble_eq_true rfl, Nat.le_of_ble_eq_true rfl⟩ rfl (Nat.le_of_ble_eq_true rfl) rfl rfl ?_
  refine g_astore_n (n := 16) (ls' := [(2, .ref 18), (1, .ref 0), (0, .ref 99)]) d_L_law_15 rfl rfl (am_ltb rfl) rfl ?_
  refine g_iconst (n := 17) (v := 1) d_L_law_16 rfl (by decide) ?_
  refine g_newa (n := 19) (ty := .long) (i := 1) (N := 1) (k9 := 3) (a0 := (1, .inr (.inl (fun _ => 0)))) (nh := 28) (h' := (hV0 ++ [.inr (7, [.int 0, .ref 19, .int 1, .int 0, .int 0, .int 0, .int (-1), .ref 20, .int 0, .int 2, .int 1, .ref 21, .ref 22, .ref 23, .int 0, .ref 24, .ref 25, .ref 26, .ref 27, .int 0]), .inl (.int, 2240, .inl (upd (upd (upd (upd (upd (upd (upd (upd (upd (upd (upd (upd (fun _ => 0) ((2 * 0) : Int32).toNatClampNeg (65535 &&& 255)) (((2 * 0) + 1) : Int32).toNatClampNeg (((65535 : Int32) >>> ((8 : Int32) &&& 31)) &&& 255)) ((128 + (2 * 0)) : Int32).toNatClampNeg (65535 &&& 255)) (((128 + (2 * 0)) + 1) : Int32).toNatClampNeg (((65535 : Int32) >>> ((8 : Int32) &&& 31)) &&& 255)) ((2 * 1) : Int32).toNatClampNeg (65535 &&& 255)) (((2 * 1) + 1) : Int32).toNatClampNeg (((65535 : Int32) >>> ((8 : Int32) &&& 31)) &&& 255)) ((128 + (2 * 1)) : Int32).toNatClampNeg (65535 &&& 255)) (((128 + (2 * 1)) + 1) : Int32).toNatClampNeg (((65535 : Int32) >>> ((8 : Int32) &&& 31)) &&& 255)) ((2 * 2) : Int32).toNatClampNeg (65535 &&& 255)) (((2 * 2) + 1) : Int32).toNatClampNeg (((65535 : Int32) >>> ((8 : Int32) &&& 31)) &&& 255)) ((128 + (2 * 2)) : Int32).toNatClampNeg (65535 &&& 255)) (((128 + (2 * 2)) + 1) : Int32).toNatClampNeg (((65535 : Int32) >>> ((8 : Int32) &&& 31)) &&& 255))), .inl (.int, 26, .inl (fun _ => 0)), .inl (.int, 4, .inl (fun _ => 0)), .inl (.int, 4, .inl (fun _ => 0)), .inl (.int, 6, .inl (fun _ => 0)), .inl (.boolean, 64, .inl (fun _ => 0)), .inl (.int, 64, .inl (fun _ => 0)), .inl (.int, 5, .inl (fun _ => 0)), .inl (.int, 5, .inl (fun _ => 0)), .inl (.long, 1, .inr (.inl (fun _ => 0)))])) d_L_law_17 rfl (List.mem_cons_of_mem _ tw_1165) rfl (fun _ => rfl) (fun _ z => by cases z) (fun _ => rfl) (by decide) (by decide) (by decide) (Nat.le_of_ble_eq_true rfl) (Nat.le_of_ble_eq_true rfl) rfl rfl rfl ?_
  refine g_astore_n (n := 20) (ls' := [(3, .ref 28), (2, .ref 18), (1, .ref 0), (0, .ref 99)]) d_L_law_19 rfl rfl (am_ltb rfl) rfl ?_
  refine g_iconst (n := 21) (v := 0) d_L_law_20 rfl (by decide) ?_
  refine g_istore (n := 23) (ls' := [(4, .int 0), (3, .ref 28), (2, .ref 18), (1, .ref 0), (0, .ref 99)]) d_L_law_21 rfl (am_ltb rfl) rfl ?_
  refine g_ls [4, 3, 2, 1, 0] rfl ?_
  exact s_L_law_L23 htr 600 29 5122 i0_g i0_li i0_su i0_ct i0_lc i0_ad i0_ctb i0_lcb i0_adb i0_fx i0_us i0_ln i0_pt i0_tx i0_br i0_rw i0_w i0_th i0_sp i0_mp i0_mf i0_ml i0_ps i0_nm i0_mu i0_ch i0_wy i0_nx i0_ou 0 r (Nat.le_of_ble_eq_true rfl) (Nat.le_of_ble_eq_true rfl) hf _ rfl
