/-! the parts of the link's state, and how the class holds them -/
def Vw : Type := (((((Int32) × (Int32)) × ((Nat → Nat → Int32) × (Nat → Nat → Int32))) × (((Nat → Nat → Int64) × (Nat → Nat → Int64)) × ((Nat → Int32) × (Nat → Int32)))) × ((((Nat → Int64) × (Nat → Int32)) × ((Nat → Int32) × (Nat → Nat → Int32))) × (((Nat → Nat → Int32) × (Nat → Nat → Int32)) × ((Nat → Nat → Int32) × (Nat → Nat → Int32)))))
def Vw.tm (v : Vw) : Int32 := (Prod.fst (Prod.fst (Prod.fst (Prod.fst v))))
def Vw.cn (v : Vw) : Int32 := (Prod.snd (Prod.fst (Prod.fst (Prod.fst v))))
def Vw.fs (v : Vw) : Nat → Nat → Int32 := (Prod.fst (Prod.snd (Prod.fst (Prod.fst v))))
def Vw.wf (v : Vw) : Nat → Nat → Int32 := (Prod.snd (Prod.snd (Prod.fst (Prod.fst v))))
def Vw.wg (v : Vw) : Nat → Nat → Int64 := (Prod.fst (Prod.fst (Prod.snd (Prod.fst v))))
def Vw.wb (v : Vw) : Nat → Nat → Int64 := (Prod.snd (Prod.fst (Prod.snd (Prod.fst v))))
def Vw.gv (v : Vw) : Nat → Int32 := (Prod.fst (Prod.snd (Prod.snd (Prod.fst v))))
def Vw.gz (v : Vw) : Nat → Int32 := (Prod.snd (Prod.snd (Prod.snd (Prod.fst v))))
def Vw.gi (v : Vw) : Nat → Int64 := (Prod.fst (Prod.fst (Prod.fst (Prod.snd v))))
def Vw.cv (v : Vw) : Nat → Int32 := (Prod.snd (Prod.fst (Prod.fst (Prod.snd v))))
def Vw.st (v : Vw) : Nat → Int32 := (Prod.fst (Prod.snd (Prod.fst (Prod.snd v))))
def Vw.sw (v : Vw) : Nat → Nat → Int32 := (Prod.snd (Prod.snd (Prod.fst (Prod.snd v))))
def Vw.tv (v : Vw) : Nat → Nat → Int32 := (Prod.fst (Prod.fst (Prod.snd (Prod.snd v))))
def Vw.tw (v : Vw) : Nat → Nat → Int32 := (Prod.snd (Prod.fst (Prod.snd (Prod.snd v))))
def Vw.rv (v : Vw) : Nat → Nat → Int32 := (Prod.fst (Prod.snd (Prod.snd (Prod.snd v))))
def Vw.rw (v : Vw) : Nat → Nat → Int32 := (Prod.snd (Prod.snd (Prod.snd (Prod.snd v))))
def mkV (a_tm : Int32) (a_cn : Int32) (a_fs : Nat → Nat → Int32) (a_wf : Nat → Nat → Int32) (a_wg : Nat → Nat → Int64) (a_wb : Nat → Nat → Int64) (a_gv : Nat → Int32) (a_gz : Nat → Int32) (a_gi : Nat → Int64) (a_cv : Nat → Int32) (a_st : Nat → Int32) (a_sw : Nat → Nat → Int32) (a_tv : Nat → Nat → Int32) (a_tw : Nat → Nat → Int32) (a_rv : Nat → Nat → Int32) (a_rw : Nat → Nat → Int32) : Vw := ((((a_tm, a_cn), (a_fs, a_wf)), ((a_wg, a_wb), (a_gv, a_gz))), (((a_gi, a_cv), (a_st, a_sw)), ((a_tv, a_tw), (a_rv, a_rw))))
set_option maxHeartbeats 4000000 in
set_option maxRecDepth 100000 in
theorem p_tm (a_tm : Int32) (a_cn : Int32) (a_fs : Nat → Nat → Int32) (a_wf : Nat → Nat → Int32) (a_wg : Nat → Nat → Int64) (a_wb : Nat → Nat → Int64) (a_gv : Nat → Int32) (a_gz : Nat → Int32) (a_gi : Nat → Int64) (a_cv : Nat → Int32) (a_st : Nat → Int32) (a_sw : Nat → Nat → Int32) (a_tv : Nat → Nat → Int32) (a_tw : Nat → Nat → Int32) (a_rv : Nat → Nat → Int32) (a_rw : Nat → Nat → Int32) : (mkV a_tm a_cn a_fs a_wf a_wg a_wb a_gv a_gz a_gi a_cv a_st a_sw a_tv a_tw a_rv a_rw).tm = a_tm := rfl
set_option maxHeartbeats 4000000 in
set_option maxRecDepth 100000 in
theorem p_cn (a_tm : Int32) (a_cn : Int32) (a_fs : Nat → Nat → Int32) (a_wf : Nat → Nat → Int32) (a_wg : Nat → Nat → Int64) (a_wb : Nat → Nat → Int64) (a_gv : Nat → Int32) (a_gz : Nat → Int32) (a_gi : Nat → Int64) (a_cv : Nat → Int32) (a_st : Nat → Int32) (a_sw : Nat → Nat → Int32) (a_tv : Nat → Nat → Int32) (a_tw : Nat → Nat → Int32) (a_rv : Nat → Nat → Int32) (a_rw : Nat → Nat → Int32) : (mkV a_tm a_cn a_fs a_wf a_wg a_wb a_gv a_gz a_gi a_cv a_st a_sw a_tv a_tw a_rv a_rw).cn = a_cn := rfl
set_option maxHeartbeats 4000000 in
set_option maxRecDepth 100000 in
theorem p_fs (a_tm : Int32) (a_cn : Int32) (a_fs : Nat → Nat → Int32) (a_wf : Nat → Nat → Int32) (a_wg : Nat → Nat → Int64) (a_wb : Nat → Nat → Int64) (a_gv : Nat → Int32) (a_gz : Nat → Int32) (a_gi : Nat → Int64) (a_cv : Nat → Int32) (a_st : Nat → Int32) (a_sw : Nat → Nat → Int32) (a_tv : Nat → Nat → Int32) (a_tw : Nat → Nat → Int32) (a_rv : Nat → Nat → Int32) (a_rw : Nat → Nat → Int32) : (mkV a_tm a_cn a_fs a_wf a_wg a_wb a_gv a_gz a_gi a_cv a_st a_sw a_tv a_tw a_rv a_rw).fs = a_fs := rfl
set_option maxHeartbeats 4000000 in
set_option maxRecDepth 100000 in
theorem p_wf (a_tm : Int32) (a_cn : Int32) (a_fs : Nat → Nat → Int32) (a_wf : Nat → Nat → Int32) (a_wg : Nat → Nat → Int64) (a_wb : Nat → Nat → Int64) (a_gv : Nat → Int32) (a_gz : Nat → Int32) (a_gi : Nat → Int64) (a_cv : Nat → Int32) (a_st : Nat → Int32) (a_sw : Nat → Nat → Int32) (a_tv : Nat → Nat → Int32) (a_tw : Nat → Nat → Int32) (a_rv : Nat → Nat → Int32) (a_rw : Nat → Nat → Int32) : (mkV a_tm a_cn a_fs a_wf a_wg a_wb a_gv a_gz a_gi a_cv a_st a_sw a_tv a_tw a_rv a_rw).wf = a_wf := rfl
set_option maxHeartbeats 4000000 in
set_option maxRecDepth 100000 in
theorem p_wg (a_tm : Int32) (a_cn : Int32) (a_fs : Nat → Nat → Int32) (a_wf : Nat → Nat → Int32) (a_wg : Nat → Nat → Int64) (a_wb : Nat → Nat → Int64) (a_gv : Nat → Int32) (a_gz : Nat → Int32) (a_gi : Nat → Int64) (a_cv : Nat → Int32) (a_st : Nat → Int32) (a_sw : Nat → Nat → Int32) (a_tv : Nat → Nat → Int32) (a_tw : Nat → Nat → Int32) (a_rv : Nat → Nat → Int32) (a_rw : Nat → Nat → Int32) : (mkV a_tm a_cn a_fs a_wf a_wg a_wb a_gv a_gz a_gi a_cv a_st a_sw a_tv a_tw a_rv a_rw).wg = a_wg := rfl
set_option maxHeartbeats 4000000 in
set_option maxRecDepth 100000 in
theorem p_wb (a_tm : Int32) (a_cn : Int32) (a_fs : Nat → Nat → Int32) (a_wf : Nat → Nat → Int32) (a_wg : Nat → Nat → Int64) (a_wb : Nat → Nat → Int64) (a_gv : Nat → Int32) (a_gz : Nat → Int32) (a_gi : Nat → Int64) (a_cv : Nat → Int32) (a_st : Nat → Int32) (a_sw : Nat → Nat → Int32) (a_tv : Nat → Nat → Int32) (a_tw : Nat → Nat → Int32) (a_rv : Nat → Nat → Int32) (a_rw : Nat → Nat → Int32) : (mkV a_tm a_cn a_fs a_wf a_wg a_wb a_gv a_gz a_gi a_cv a_st a_sw a_tv a_tw a_rv a_rw).wb = a_wb := rfl
set_option maxHeartbeats 4000000 in
set_option maxRecDepth 100000 in
theorem p_gv (a_tm : Int32) (a_cn : Int32) (a_fs : Nat → Nat → Int32) (a_wf : Nat → Nat → Int32) (a_wg : Nat → Nat → Int64) (a_wb : Nat → Nat → Int64) (a_gv : Nat → Int32) (a_gz : Nat → Int32) (a_gi : Nat → Int64) (a_cv : Nat → Int32) (a_st : Nat → Int32) (a_sw : Nat → Nat → Int32) (a_tv : Nat → Nat → Int32) (a_tw : Nat → Nat → Int32) (a_rv : Nat → Nat → Int32) (a_rw : Nat → Nat → Int32) : (mkV a_tm a_cn a_fs a_wf a_wg a_wb a_gv a_gz a_gi a_cv a_st a_sw a_tv a_tw a_rv a_rw).gv = a_gv := rfl
set_option maxHeartbeats 4000000 in
set_option maxRecDepth 100000 in
theorem p_gz (a_tm : Int32) (a_cn : Int32) (a_fs : Nat → Nat → Int32) (a_wf : Nat → Nat → Int32) (a_wg : Nat → Nat → Int64) (a_wb : Nat → Nat → Int64) (a_gv : Nat → Int32) (a_gz : Nat → Int32) (a_gi : Nat → Int64) (a_cv : Nat → Int32) (a_st : Nat → Int32) (a_sw : Nat → Nat → Int32) (a_tv : Nat → Nat → Int32) (a_tw : Nat → Nat → Int32) (a_rv : Nat → Nat → Int32) (a_rw : Nat → Nat → Int32) : (mkV a_tm a_cn a_fs a_wf a_wg a_wb a_gv a_gz a_gi a_cv a_st a_sw a_tv a_tw a_rv a_rw).gz = a_gz := rfl
set_option maxHeartbeats 4000000 in
set_option maxRecDepth 100000 in
theorem p_gi (a_tm : Int32) (a_cn : Int32) (a_fs : Nat → Nat → Int32) (a_wf : Nat → Nat → Int32) (a_wg : Nat → Nat → Int64) (a_wb : Nat → Nat → Int64) (a_gv : Nat → Int32) (a_gz : Nat → Int32) (a_gi : Nat → Int64) (a_cv : Nat → Int32) (a_st : Nat → Int32) (a_sw : Nat → Nat → Int32) (a_tv : Nat → Nat → Int32) (a_tw : Nat → Nat → Int32) (a_rv : Nat → Nat → Int32) (a_rw : Nat → Nat → Int32) : (mkV a_tm a_cn a_fs a_wf a_wg a_wb a_gv a_gz a_gi a_cv a_st a_sw a_tv a_tw a_rv a_rw).gi = a_gi := rfl
set_option maxHeartbeats 4000000 in
set_option maxRecDepth 100000 in
theorem p_cv (a_tm : Int32) (a_cn : Int32) (a_fs : Nat → Nat → Int32) (a_wf : Nat → Nat → Int32) (a_wg : Nat → Nat → Int64) (a_wb : Nat → Nat → Int64) (a_gv : Nat → Int32) (a_gz : Nat → Int32) (a_gi : Nat → Int64) (a_cv : Nat → Int32) (a_st : Nat → Int32) (a_sw : Nat → Nat → Int32) (a_tv : Nat → Nat → Int32) (a_tw : Nat → Nat → Int32) (a_rv : Nat → Nat → Int32) (a_rw : Nat → Nat → Int32) : (mkV a_tm a_cn a_fs a_wf a_wg a_wb a_gv a_gz a_gi a_cv a_st a_sw a_tv a_tw a_rv a_rw).cv = a_cv := rfl
set_option maxHeartbeats 4000000 in
set_option maxRecDepth 100000 in
theorem p_st (a_tm : Int32) (a_cn : Int32) (a_fs : Nat → Nat → Int32) (a_wf : Nat → Nat → Int32) (a_wg : Nat → Nat → Int64) (a_wb : Nat → Nat → Int64) (a_gv : Nat → Int32) (a_gz : Nat → Int32) (a_gi : Nat → Int64) (a_cv : Nat → Int32) (a_st : Nat → Int32) (a_sw : Nat → Nat → Int32) (a_tv : Nat → Nat → Int32) (a_tw : Nat → Nat → Int32) (a_rv : Nat → Nat → Int32) (a_rw : Nat → Nat → Int32) : (mkV a_tm a_cn a_fs a_wf a_wg a_wb a_gv a_gz a_gi a_cv a_st a_sw a_tv a_tw a_rv a_rw).st = a_st := rfl
set_option maxHeartbeats 4000000 in
set_option maxRecDepth 100000 in
theorem p_sw (a_tm : Int32) (a_cn : Int32) (a_fs : Nat → Nat → Int32) (a_wf : Nat → Nat → Int32) (a_wg : Nat → Nat → Int64) (a_wb : Nat → Nat → Int64) (a_gv : Nat → Int32) (a_gz : Nat → Int32) (a_gi : Nat → Int64) (a_cv : Nat → Int32) (a_st : Nat → Int32) (a_sw : Nat → Nat → Int32) (a_tv : Nat → Nat → Int32) (a_tw : Nat → Nat → Int32) (a_rv : Nat → Nat → Int32) (a_rw : Nat → Nat → Int32) : (mkV a_tm a_cn a_fs a_wf a_wg a_wb a_gv a_gz a_gi a_cv a_st a_sw a_tv a_tw a_rv a_rw).sw = a_sw := rfl
set_option maxHeartbeats 4000000 in
set_option maxRecDepth 100000 in
theorem p_tv (a_tm : Int32) (a_cn : Int32) (a_fs : Nat → Nat → Int32) (a_wf : Nat → Nat → Int32) (a_wg : Nat → Nat → Int64) (a_wb : Nat → Nat → Int64) (a_gv : Nat → Int32) (a_gz : Nat → Int32) (a_gi : Nat → Int64) (a_cv : Nat → Int32) (a_st : Nat → Int32) (a_sw : Nat → Nat → Int32) (a_tv : Nat → Nat → Int32) (a_tw : Nat → Nat → Int32) (a_rv : Nat → Nat → Int32) (a_rw : Nat → Nat → Int32) : (mkV a_tm a_cn a_fs a_wf a_wg a_wb a_gv a_gz a_gi a_cv a_st a_sw a_tv a_tw a_rv a_rw).tv = a_tv := rfl
set_option maxHeartbeats 4000000 in
set_option maxRecDepth 100000 in
theorem p_tw (a_tm : Int32) (a_cn : Int32) (a_fs : Nat → Nat → Int32) (a_wf : Nat → Nat → Int32) (a_wg : Nat → Nat → Int64) (a_wb : Nat → Nat → Int64) (a_gv : Nat → Int32) (a_gz : Nat → Int32) (a_gi : Nat → Int64) (a_cv : Nat → Int32) (a_st : Nat → Int32) (a_sw : Nat → Nat → Int32) (a_tv : Nat → Nat → Int32) (a_tw : Nat → Nat → Int32) (a_rv : Nat → Nat → Int32) (a_rw : Nat → Nat → Int32) : (mkV a_tm a_cn a_fs a_wf a_wg a_wb a_gv a_gz a_gi a_cv a_st a_sw a_tv a_tw a_rv a_rw).tw = a_tw := rfl
set_option maxHeartbeats 4000000 in
set_option maxRecDepth 100000 in
theorem p_rv (a_tm : Int32) (a_cn : Int32) (a_fs : Nat → Nat → Int32) (a_wf : Nat → Nat → Int32) (a_wg : Nat → Nat → Int64) (a_wb : Nat → Nat → Int64) (a_gv : Nat → Int32) (a_gz : Nat → Int32) (a_gi : Nat → Int64) (a_cv : Nat → Int32) (a_st : Nat → Int32) (a_sw : Nat → Nat → Int32) (a_tv : Nat → Nat → Int32) (a_tw : Nat → Nat → Int32) (a_rv : Nat → Nat → Int32) (a_rw : Nat → Nat → Int32) : (mkV a_tm a_cn a_fs a_wf a_wg a_wb a_gv a_gz a_gi a_cv a_st a_sw a_tv a_tw a_rv a_rw).rv = a_rv := rfl
set_option maxHeartbeats 4000000 in
set_option maxRecDepth 100000 in
theorem p_rw (a_tm : Int32) (a_cn : Int32) (a_fs : Nat → Nat → Int32) (a_wf : Nat → Nat → Int32) (a_wg : Nat → Nat → Int64) (a_wb : Nat → Nat → Int64) (a_gv : Nat → Int32) (a_gz : Nat → Int32) (a_gi : Nat → Int64) (a_cv : Nat → Int32) (a_st : Nat → Int32) (a_sw : Nat → Nat → Int32) (a_tv : Nat → Nat → Int32) (a_tw : Nat → Nat → Int32) (a_rv : Nat → Nat → Int32) (a_rw : Nat → Nat → Int32) : (mkV a_tm a_cn a_fs a_wf a_wg a_wb a_gv a_gz a_gi a_cv a_st a_sw a_tv a_tw a_rv a_rw).rw = a_rw := rfl
set_option maxHeartbeats 4000000 in
set_option maxRecDepth 100000 in
theorem p_eta (v : Vw) : mkV v.tm v.cn v.fs v.wf v.wg v.wb v.gv v.gz v.gi v.cv v.st v.sw v.tv v.tw v.rv v.rw = v := rfl
def m_tm (v : Vw) (g : (Int32) → (Int32)) : Vw := mkV (g v.tm) v.cn v.fs v.wf v.wg v.wb v.gv v.gz v.gi v.cv v.st v.sw v.tv v.tw v.rv v.rw
def m_cn (v : Vw) (g : (Int32) → (Int32)) : Vw := mkV v.tm (g v.cn) v.fs v.wf v.wg v.wb v.gv v.gz v.gi v.cv v.st v.sw v.tv v.tw v.rv v.rw
def m_fs (v : Vw) (g : (Nat → Nat → Int32) → (Nat → Nat → Int32)) : Vw := mkV v.tm v.cn (g v.fs) v.wf v.wg v.wb v.gv v.gz v.gi v.cv v.st v.sw v.tv v.tw v.rv v.rw
def m_wf (v : Vw) (g : (Nat → Nat → Int32) → (Nat → Nat → Int32)) : Vw := mkV v.tm v.cn v.fs (g v.wf) v.wg v.wb v.gv v.gz v.gi v.cv v.st v.sw v.tv v.tw v.rv v.rw
def m_wg (v : Vw) (g : (Nat → Nat → Int64) → (Nat → Nat → Int64)) : Vw := mkV v.tm v.cn v.fs v.wf (g v.wg) v.wb v.gv v.gz v.gi v.cv v.st v.sw v.tv v.tw v.rv v.rw
def m_wb (v : Vw) (g : (Nat → Nat → Int64) → (Nat → Nat → Int64)) : Vw := mkV v.tm v.cn v.fs v.wf v.wg (g v.wb) v.gv v.gz v.gi v.cv v.st v.sw v.tv v.tw v.rv v.rw
def m_gv (v : Vw) (g : (Nat → Int32) → (Nat → Int32)) : Vw := mkV v.tm v.cn v.fs v.wf v.wg v.wb (g v.gv) v.gz v.gi v.cv v.st v.sw v.tv v.tw v.rv v.rw
def m_gz (v : Vw) (g : (Nat → Int32) → (Nat → Int32)) : Vw := mkV v.tm v.cn v.fs v.wf v.wg v.wb v.gv (g v.gz) v.gi v.cv v.st v.sw v.tv v.tw v.rv v.rw
def m_gi (v : Vw) (g : (Nat → Int64) → (Nat → Int64)) : Vw := mkV v.tm v.cn v.fs v.wf v.wg v.wb v.gv v.gz (g v.gi) v.cv v.st v.sw v.tv v.tw v.rv v.rw
def m_cv (v : Vw) (g : (Nat → Int32) → (Nat → Int32)) : Vw := mkV v.tm v.cn v.fs v.wf v.wg v.wb v.gv v.gz v.gi (g v.cv) v.st v.sw v.tv v.tw v.rv v.rw
def m_st (v : Vw) (g : (Nat → Int32) → (Nat → Int32)) : Vw := mkV v.tm v.cn v.fs v.wf v.wg v.wb v.gv v.gz v.gi v.cv (g v.st) v.sw v.tv v.tw v.rv v.rw
def m_sw (v : Vw) (g : (Nat → Nat → Int32) → (Nat → Nat → Int32)) : Vw := mkV v.tm v.cn v.fs v.wf v.wg v.wb v.gv v.gz v.gi v.cv v.st (g v.sw) v.tv v.tw v.rv v.rw
def m_tv (v : Vw) (g : (Nat → Nat → Int32) → (Nat → Nat → Int32)) : Vw := mkV v.tm v.cn v.fs v.wf v.wg v.wb v.gv v.gz v.gi v.cv v.st v.sw (g v.tv) v.tw v.rv v.rw
def m_tw (v : Vw) (g : (Nat → Nat → Int32) → (Nat → Nat → Int32)) : Vw := mkV v.tm v.cn v.fs v.wf v.wg v.wb v.gv v.gz v.gi v.cv v.st v.sw v.tv (g v.tw) v.rv v.rw
def m_rv (v : Vw) (g : (Nat → Nat → Int32) → (Nat → Nat → Int32)) : Vw := mkV v.tm v.cn v.fs v.wf v.wg v.wb v.gv v.gz v.gi v.cv v.st v.sw v.tv v.tw (g v.rv) v.rw
def m_rw (v : Vw) (g : (Nat → Nat → Int32) → (Nat → Nat → Int32)) : Vw := mkV v.tm v.cn v.fs v.wf v.wg v.wb v.gv v.gz v.gi v.cv v.st v.sw v.tv v.tw v.rv (g v.rw)
set_option maxHeartbeats 4000000 in
set_option maxRecDepth 100000 in
theorem mm_tm (v : Vw) (g h : (Int32) → (Int32)) : m_tm (m_tm v g) h = m_tm v (fun r => h (g r)) := rfl
set_option maxHeartbeats 4000000 in
set_option maxRecDepth 100000 in
theorem mm_cn (v : Vw) (g h : (Int32) → (Int32)) : m_cn (m_cn v g) h = m_cn v (fun r => h (g r)) := rfl
set_option maxHeartbeats 4000000 in
set_option maxRecDepth 100000 in
theorem mm_fs (v : Vw) (g h : (Nat → Nat → Int32) → (Nat → Nat → Int32)) : m_fs (m_fs v g) h = m_fs v (fun r => h (g r)) := rfl
set_option maxHeartbeats 4000000 in
set_option maxRecDepth 100000 in
theorem mm_wf (v : Vw) (g h : (Nat → Nat → Int32) → (Nat → Nat → Int32)) : m_wf (m_wf v g) h = m_wf v (fun r => h (g r)) := rfl
set_option maxHeartbeats 4000000 in
set_option maxRecDepth 100000 in
theorem mm_wg (v : Vw) (g h : (Nat → Nat → Int64) → (Nat → Nat → Int64)) : m_wg (m_wg v g) h = m_wg v (fun r => h (g r)) := rfl
set_option maxHeartbeats 4000000 in
set_option maxRecDepth 100000 in
theorem mm_wb (v : Vw) (g h : (Nat → Nat → Int64) → (Nat → Nat → Int64)) : m_wb (m_wb v g) h = m_wb v (fun r => h (g r)) := rfl
set_option maxHeartbeats 4000000 in
set_option maxRecDepth 100000 in
theorem mm_gv (v : Vw) (g h : (Nat → Int32) → (Nat → Int32)) : m_gv (m_gv v g) h = m_gv v (fun r => h (g r)) := rfl
set_option maxHeartbeats 4000000 in
set_option maxRecDepth 100000 in
theorem mm_gz (v : Vw) (g h : (Nat → Int32) → (Nat → Int32)) : m_gz (m_gz v g) h = m_gz v (fun r => h (g r)) := rfl
set_option maxHeartbeats 4000000 in
set_option maxRecDepth 100000 in
theorem mm_gi (v : Vw) (g h : (Nat → Int64) → (Nat → Int64)) : m_gi (m_gi v g) h = m_gi v (fun r => h (g r)) := rfl
set_option maxHeartbeats 4000000 in
set_option maxRecDepth 100000 in
theorem mm_cv (v : Vw) (g h : (Nat → Int32) → (Nat → Int32)) : m_cv (m_cv v g) h = m_cv v (fun r => h (g r)) := rfl
set_option maxHeartbeats 4000000 in
set_option maxRecDepth 100000 in
theorem mm_st (v : Vw) (g h : (Nat → Int32) → (Nat → Int32)) : m_st (m_st v g) h = m_st v (fun r => h (g r)) := rfl
set_option maxHeartbeats 4000000 in
set_option maxRecDepth 100000 in
theorem mm_sw (v : Vw) (g h : (Nat → Nat → Int32) → (Nat → Nat → Int32)) : m_sw (m_sw v g) h = m_sw v (fun r => h (g r)) := rfl
set_option maxHeartbeats 4000000 in
set_option maxRecDepth 100000 in
theorem mm_tv (v : Vw) (g h : (Nat → Nat → Int32) → (Nat → Nat → Int32)) : m_tv (m_tv v g) h = m_tv v (fun r => h (g r)) := rfl
set_option maxHeartbeats 4000000 in
set_option maxRecDepth 100000 in
theorem mm_tw (v : Vw) (g h : (Nat → Nat → Int32) → (Nat → Nat → Int32)) : m_tw (m_tw v g) h = m_tw v (fun r => h (g r)) := rfl
set_option maxHeartbeats 4000000 in
set_option maxRecDepth 100000 in
theorem mm_rv (v : Vw) (g h : (Nat → Nat → Int32) → (Nat → Nat → Int32)) : m_rv (m_rv v g) h = m_rv v (fun r => h (g r)) := rfl
set_option maxHeartbeats 4000000 in
set_option maxRecDepth 100000 in
theorem mm_rw (v : Vw) (g h : (Nat → Nat → Int32) → (Nat → Nat → Int32)) : m_rw (m_rw v g) h = m_rw v (fun r => h (g r)) := rfl
set_option maxHeartbeats 4000000 in
set_option maxRecDepth 100000 in
theorem mc_cn_tv (v : Vw) (g : (Int32) → (Int32)) (h : (Nat → Nat → Int32) → (Nat → Nat → Int32)) : m_cn (m_tv v h) g = m_tv (m_cn v g) h := rfl
set_option maxHeartbeats 4000000 in
set_option maxRecDepth 100000 in
theorem mc_wf_wg (v : Vw) (g : (Nat → Nat → Int32) → (Nat → Nat → Int32)) (h : (Nat → Nat → Int64) → (Nat → Nat → Int64)) : m_wf (m_wg v h) g = m_wg (m_wf v g) h := rfl
set_option maxHeartbeats 4000000 in
set_option maxRecDepth 100000 in
theorem mc_wf_wb (v : Vw) (g : (Nat → Nat → Int32) → (Nat → Nat → Int32)) (h : (Nat → Nat → Int64) → (Nat → Nat → Int64)) : m_wf (m_wb v h) g = m_wb (m_wf v g) h := rfl
set_option maxHeartbeats 4000000 in
set_option maxRecDepth 100000 in
theorem mc_wg_wb (v : Vw) (g : (Nat → Nat → Int64) → (Nat → Nat → Int64)) (h : (Nat → Nat → Int64) → (Nat → Nat → Int64)) : m_wg (m_wb v h) g = m_wb (m_wg v g) h := rfl
set_option maxHeartbeats 4000000 in
set_option maxRecDepth 100000 in
theorem mc_gv_gz (v : Vw) (g : (Nat → Int32) → (Nat → Int32)) (h : (Nat → Int32) → (Nat → Int32)) : m_gv (m_gz v h) g = m_gz (m_gv v g) h := rfl
set_option maxHeartbeats 4000000 in
set_option maxRecDepth 100000 in
theorem mc_gv_gi (v : Vw) (g : (Nat → Int32) → (Nat → Int32)) (h : (Nat → Int64) → (Nat → Int64)) : m_gv (m_gi v h) g = m_gi (m_gv v g) h := rfl
set_option maxHeartbeats 4000000 in
set_option maxRecDepth 100000 in
theorem mc_gv_tv (v : Vw) (g : (Nat → Int32) → (Nat → Int32)) (h : (Nat → Nat → Int32) → (Nat → Nat → Int32)) : m_gv (m_tv v h) g = m_tv (m_gv v g) h := rfl
set_option maxHeartbeats 4000000 in
set_option maxRecDepth 100000 in
theorem mc_gz_gi (v : Vw) (g : (Nat → Int32) → (Nat → Int32)) (h : (Nat → Int64) → (Nat → Int64)) : m_gz (m_gi v h) g = m_gi (m_gz v g) h := rfl
set_option maxHeartbeats 4000000 in
set_option maxRecDepth 100000 in
theorem mc_gz_tv (v : Vw) (g : (Nat → Int32) → (Nat → Int32)) (h : (Nat → Nat → Int32) → (Nat → Nat → Int32)) : m_gz (m_tv v h) g = m_tv (m_gz v g) h := rfl
set_option maxHeartbeats 4000000 in
set_option maxRecDepth 100000 in
theorem mc_gi_tv (v : Vw) (g : (Nat → Int64) → (Nat → Int64)) (h : (Nat → Nat → Int32) → (Nat → Nat → Int32)) : m_gi (m_tv v h) g = m_tv (m_gi v g) h := rfl
set_option maxHeartbeats 4000000 in
set_option maxRecDepth 100000 in
theorem mc_st_sw (v : Vw) (g : (Nat → Int32) → (Nat → Int32)) (h : (Nat → Nat → Int32) → (Nat → Nat → Int32)) : m_st (m_sw v h) g = m_sw (m_st v g) h := rfl
set_option maxHeartbeats 4000000 in
set_option maxRecDepth 100000 in
theorem mc_st_rv (v : Vw) (g : (Nat → Int32) → (Nat → Int32)) (h : (Nat → Nat → Int32) → (Nat → Nat → Int32)) : m_st (m_rv v h) g = m_rv (m_st v g) h := rfl
set_option maxHeartbeats 4000000 in
set_option maxRecDepth 100000 in
theorem mc_st_rw (v : Vw) (g : (Nat → Int32) → (Nat → Int32)) (h : (Nat → Nat → Int32) → (Nat → Nat → Int32)) : m_st (m_rw v h) g = m_rw (m_st v g) h := rfl
set_option maxHeartbeats 4000000 in
set_option maxRecDepth 100000 in
theorem mc_sw_rv (v : Vw) (g : (Nat → Nat → Int32) → (Nat → Nat → Int32)) (h : (Nat → Nat → Int32) → (Nat → Nat → Int32)) : m_sw (m_rv v h) g = m_rv (m_sw v g) h := rfl
set_option maxHeartbeats 4000000 in
set_option maxRecDepth 100000 in
theorem mc_sw_rw (v : Vw) (g : (Nat → Nat → Int32) → (Nat → Nat → Int32)) (h : (Nat → Nat → Int32) → (Nat → Nat → Int32)) : m_sw (m_rw v h) g = m_rw (m_sw v g) h := rfl
set_option maxHeartbeats 4000000 in
set_option maxRecDepth 100000 in
theorem mc_rv_rw (v : Vw) (g : (Nat → Nat → Int32) → (Nat → Nat → Int32)) (h : (Nat → Nat → Int32) → (Nat → Nat → Int32)) : m_rv (m_rw v h) g = m_rw (m_rv v g) h := rfl
def z32 : Nat → Int32 := fun _ => 0
def z64 : Nat → Int64 := fun _ => 0
def XX (v : Vw) : fl_M :=
  (fun q => if q = 0 then upd z32 5 v.tm else if q = 6 then v.wf 0 else if q = 8 then v.wf 1 else if q = 10 then upd z32 2 v.cn else if q = 11 then v.gv else if q = 13 then v.gz else if q = 16 then v.cv else if q = 18 then v.st else if 2 ≤ q ∧ q < 6 then v.fs (q - 2) else if 20 ≤ q ∧ q < 24 then v.sw (q - 20) else if 24 ≤ q ∧ q < 56 then (if q % 2 = 0 then v.tv ((q - 24) / 2) else v.tw ((q - 25) / 2)) else if 56 ≤ q ∧ q < 88 then (if q % 2 = 0 then v.rv ((q - 56) / 2) else v.rw ((q - 57) / 2)) else z32,
   fun q => if q = 6 then v.wg 0 else if q = 7 then v.wb 0 else if q = 8 then v.wg 1 else if q = 9 then v.wb 1 else if q = 12 then v.gi else z64)
section
variable (v : Vw) {t f j : Nat}
set_option maxHeartbeats 4000000 in
set_option maxRecDepth 100000 in
theorem X_0 : (XX v).1 0 5 = v.tm := rfl
set_option maxHeartbeats 4000000 in
set_option maxRecDepth 100000 in
theorem X_6 : (XX v).1 6 = v.wf 0 := rfl
set_option maxHeartbeats 4000000 in
set_option maxRecDepth 100000 in
theorem X_8 : (XX v).1 8 = v.wf 1 := rfl
set_option maxHeartbeats 4000000 in
set_option maxRecDepth 100000 in
theorem X_10 : (XX v).1 10 2 = v.cn := rfl
set_option maxHeartbeats 4000000 in
set_option maxRecDepth 100000 in
theorem X_11 : (XX v).1 11 = v.gv := rfl
set_option maxHeartbeats 4000000 in
set_option maxRecDepth 100000 in
theorem X_13 : (XX v).1 13 = v.gz := rfl
set_option maxHeartbeats 4000000 in
set_option maxRecDepth 100000 in
theorem X_16 : (XX v).1 16 = v.cv := rfl
set_option maxHeartbeats 4000000 in
set_option maxRecDepth 100000 in
theorem X_18 : (XX v).1 18 = v.st := rfl
set_option maxHeartbeats 4000000 in
set_option maxRecDepth 100000 in
theorem X_g6 : (XX v).2 6 = v.wg 0 := rfl
set_option maxHeartbeats 4000000 in
set_option maxRecDepth 100000 in
theorem X_g7 : (XX v).2 (6 + 1) = v.wb 0 := rfl
set_option maxHeartbeats 4000000 in
set_option maxRecDepth 100000 in
theorem X_g8 : (XX v).2 8 = v.wg 1 := rfl
set_option maxHeartbeats 4000000 in
set_option maxRecDepth 100000 in
theorem X_g9 : (XX v).2 (8 + 1) = v.wb 1 := rfl
set_option maxHeartbeats 4000000 in
set_option maxRecDepth 100000 in
theorem X_g12 : (XX v).2 12 = v.gi := rfl
set_option maxHeartbeats 4000000 in
set_option maxRecDepth 100000 in
theorem X_fs (h : f < 4) : (XX v).1 (2 + f) = v.fs f := by
  match f, h with
  | 0, _ => rfl
  | 1, _ => rfl
  | 2, _ => rfl
  | 3, _ => rfl
  | n + 4, h => exact absurd h (by omega)
set_option maxHeartbeats 4000000 in
set_option maxRecDepth 100000 in
theorem X_sw (h : f < 4) : (XX v).1 (20 + f) = v.sw f := by
  match f, h with
  | 0, _ => rfl
  | 1, _ => rfl
  | 2, _ => rfl
  | 3, _ => rfl
  | n + 4, h => exact absurd h (by omega)
set_option maxHeartbeats 4000000 in
set_option maxRecDepth 100000 in
theorem X_tv (h : t < 16) : (XX v).1 (24 + 2 * t) = v.tv t := by
  unfold XX; dsimp only [m_tm, m_cn, m_fs, m_wf, m_wg, m_wb, m_gv, m_gz, m_gi, m_cv, m_st, m_sw, m_tv, m_tw, m_rv, m_rw, p_tm, p_cn, p_fs, p_wf, p_wg, p_wb, p_gv, p_gz, p_gi, p_cv, p_st, p_sw, p_tv, p_tw, p_rv, p_rw]
  rw [if_neg (by omega), if_neg (by omega), if_neg (by omega), if_neg (by omega), if_neg (by omega), if_neg (by omega), if_neg (by omega), if_neg (by omega), if_neg (by omega), if_neg (by omega), if_pos (by omega), if_pos (by omega)]
  rw [show (24 + 2 * t - 24) / 2 = t by omega]
set_option maxHeartbeats 4000000 in
set_option maxRecDepth 100000 in
theorem X_tw (h : t < 16) : (XX v).1 (24 + 2 * t + 1) = v.tw t := by
  unfold XX; dsimp only [m_tm, m_cn, m_fs, m_wf, m_wg, m_wb, m_gv, m_gz, m_gi, m_cv, m_st, m_sw, m_tv, m_tw, m_rv, m_rw, p_tm, p_cn, p_fs, p_wf, p_wg, p_wb, p_gv, p_gz, p_gi, p_cv, p_st, p_sw, p_tv, p_tw, p_rv, p_rw]
  rw [if_neg (by omega), if_neg (by omega), if_neg (by omega), if_neg (by omega), if_neg (by omega), if_neg (by omega), if_neg (by omega), if_neg (by omega), if_neg (by omega), if_neg (by omega), if_pos (by omega), if_neg (by omega)]
  rw [show (24 + 2 * t + 1 - 25) / 2 = t by omega]
set_option maxHeartbeats 4000000 in
set_option maxRecDepth 100000 in
theorem X_rv (h : t < 16) : (XX v).1 (56 + 2 * t) = v.rv t := by
  unfold XX; dsimp only [m_tm, m_cn, m_fs, m_wf, m_wg, m_wb, m_gv, m_gz, m_gi, m_cv, m_st, m_sw, m_tv, m_tw, m_rv, m_rw, p_tm, p_cn, p_fs, p_wf, p_wg, p_wb, p_gv, p_gz, p_gi, p_cv, p_st, p_sw, p_tv, p_tw, p_rv, p_rw]
  rw [if_neg (by omega), if_neg (by omega), if_neg (by omega), if_neg (by omega), if_neg (by omega), if_neg (by omega), if_neg (by omega), if_neg (by omega), if_neg (by omega), if_neg (by omega), if_neg (by omega), if_pos (by omega), if_pos (by omega)]
  rw [show (56 + 2 * t - 56) / 2 = t by omega]
set_option maxHeartbeats 4000000 in
set_option maxRecDepth 100000 in
theorem X_rw (h : t < 16) : (XX v).1 (56 + 2 * t + 1) = v.rw t := by
  unfold XX; dsimp only [m_tm, m_cn, m_fs, m_wf, m_wg, m_wb, m_gv, m_gz, m_gi, m_cv, m_st, m_sw, m_tv, m_tw, m_rv, m_rw, p_tm, p_cn, p_fs, p_wf, p_wg, p_wb, p_gv, p_gz, p_gi, p_cv, p_st, p_sw, p_tv, p_tw, p_rv, p_rw]
  rw [if_neg (by omega), if_neg (by omega), if_neg (by omega), if_neg (by omega), if_neg (by omega), if_neg (by omega), if_neg (by omega), if_neg (by omega), if_neg (by omega), if_neg (by omega), if_neg (by omega), if_pos (by omega), if_neg (by omega)]
  rw [show (56 + 2 * t + 1 - 57) / 2 = t by omega]
set_option maxHeartbeats 4000000 in
set_option maxRecDepth 100000 in
theorem va_up_at {α : Type} (f : Nat → α) (k : Nat) (x : α) (j : Nat) : va_up f k x j = if j = k then x else f j := rfl
set_option maxHeartbeats 4000000 in
set_option maxRecDepth 100000 in
theorem X_pCR (h : t < 16) (a b : Nat → Int32) : pCR (XX v) (56 + 2 * t) a b = XX (mkV v.tm v.cn v.fs v.wf v.wg v.wb v.gv v.gz v.gi v.cv v.st v.sw v.tv v.tw (va_up v.rv t a) (va_up v.rw t b)) := by
  refine Prod.ext (funext fun q => ?_) rfl
  unfold pCR
  dsimp only [m_tm, m_cn, m_fs, m_wf, m_wg, m_wb, m_gv, m_gz, m_gi, m_cv, m_st, m_sw, m_tv, m_tw, m_rv, m_rw, p_tm, p_cn, p_fs, p_wf, p_wg, p_wb, p_gv, p_gz, p_gi, p_cv, p_st, p_sw, p_tv, p_tw, p_rv, p_rw]
  by_cases h1 : q = 56 + 2 * t + 1
  · rw [h1, va_up_self, X_rw _ h]; exact (va_up_self _ _ _).symm
  · rw [va_up_ne _ _ h1]
    by_cases h2 : q = 56 + 2 * t
    · rw [h2, va_up_self, X_rv _ h]; exact (va_up_self _ _ _).symm
    · rw [va_up_ne _ _ h2]
      unfold XX
      dsimp only [m_tm, m_cn, m_fs, m_wf, m_wg, m_wb, m_gv, m_gz, m_gi, m_cv, m_st, m_sw, m_tv, m_tw, m_rv, m_rw, p_tm, p_cn, p_fs, p_wf, p_wg, p_wb, p_gv, p_gz, p_gi, p_cv, p_st, p_sw, p_tv, p_tw, p_rv, p_rw]
      rw [va_up_at, va_up_at]
      by_cases h3 : 56 ≤ q ∧ q < 88
      · by_cases h4 : q % 2 = 0
        · simp only [if_pos h4, if_neg (show ¬ (q - 56) / 2 = t by omega)]
        · simp only [if_neg h4, if_neg (show ¬ (q - 57) / 2 = t by omega)]
      · simp only [if_neg h3]
set_option maxHeartbeats 4000000 in
set_option maxRecDepth 100000 in
theorem X_pTR (h : t < 16) (a b : Nat → Int32) : pTR (XX v) (24 + 2 * t) a b = XX (mkV v.tm v.cn v.fs v.wf v.wg v.wb v.gv v.gz v.gi v.cv v.st v.sw (va_up v.tv t a) (va_up v.tw t b) v.rv v.rw) := by
  refine Prod.ext (funext fun q => ?_) rfl
  unfold pTR
  dsimp only [m_tm, m_cn, m_fs, m_wf, m_wg, m_wb, m_gv, m_gz, m_gi, m_cv, m_st, m_sw, m_tv, m_tw, m_rv, m_rw, p_tm, p_cn, p_fs, p_wf, p_wg, p_wb, p_gv, p_gz, p_gi, p_cv, p_st, p_sw, p_tv, p_tw, p_rv, p_rw]
  by_cases h1 : q = 24 + 2 * t + 1
  · rw [h1, va_up_self, X_tw _ h]; exact (va_up_self _ _ _).symm
  · rw [va_up_ne _ _ h1]
    by_cases h2 : q = 24 + 2 * t
    · rw [h2, va_up_self, X_tv _ h]; exact (va_up_self _ _ _).symm
    · rw [va_up_ne _ _ h2]
      unfold XX
      dsimp only [m_tm, m_cn, m_fs, m_wf, m_wg, m_wb, m_gv, m_gz, m_gi, m_cv, m_st, m_sw, m_tv, m_tw, m_rv, m_rw, p_tm, p_cn, p_fs, p_wf, p_wg, p_wb, p_gv, p_gz, p_gi, p_cv, p_st, p_sw, p_tv, p_tw, p_rv, p_rw]
      rw [va_up_at, va_up_at]
      by_cases h3 : 24 ≤ q ∧ q < 56
      · by_cases h4 : q % 2 = 0
        · simp only [if_pos h4, if_neg (show ¬ (q - 24) / 2 = t by omega)]
        · simp only [if_neg h4, if_neg (show ¬ (q - 25) / 2 = t by omega)]
      · simp only [if_neg h3]
set_option maxHeartbeats 4000000 in
set_option maxRecDepth 100000 in
theorem va_eq1 {f g : Nat → Nat → Int32} {c : Nat} {x : Nat → Int32} (h1 : g c = x) (h : ∀ q, q ≠ c → f q = g q) : va_up f c x = g := by
  funext q
  by_cases hq : q = c
  · rw [hq, va_up_self, h1]
  · rw [va_up_ne _ _ hq, h q hq]
set_option maxHeartbeats 4000000 in
set_option maxRecDepth 100000 in
theorem va_eq1L {f g : Nat → Nat → Int64} {c : Nat} {x : Nat → Int64} (h1 : g c = x) (h : ∀ q, q ≠ c → f q = g q) : va_up f c x = g := by
  funext q
  by_cases hq : q = c
  · rw [hq, va_up_self, h1]
  · rw [va_up_ne _ _ hq, h q hq]
set_option maxHeartbeats 4000000 in
set_option maxRecDepth 100000 in
theorem X_pCF (a : Nat → Int32) : pCF (XX v) a = XX (mkV v.tm v.cn v.fs v.wf v.wg v.wb v.gv v.gz v.gi (a) v.st v.sw v.tv v.tw v.rv v.rw) := by
  refine Prod.ext (va_eq1 rfl (fun q hq => ?_)) rfl
  unfold XX; dsimp only [m_tm, m_cn, m_fs, m_wf, m_wg, m_wb, m_gv, m_gz, m_gi, m_cv, m_st, m_sw, m_tv, m_tw, m_rv, m_rw, p_tm, p_cn, p_fs, p_wf, p_wg, p_wb, p_gv, p_gz, p_gi, p_cv, p_st, p_sw, p_tv, p_tw, p_rv, p_rw]; rw [if_neg hq, if_neg hq]
set_option maxHeartbeats 4000000 in
set_option maxRecDepth 100000 in
theorem X_i10 (x : Int32) : fl_i (XX v) 10 2 x = XX (mkV v.tm (x) v.fs v.wf v.wg v.wb v.gv v.gz v.gi v.cv v.st v.sw v.tv v.tw v.rv v.rw) := by
  refine Prod.ext (va_eq1 ?_ (fun q hq => ?_)) rfl
  · show upd z32 2 x = upd (upd z32 2 v.cn) 2 x
    funext i; unfold upd; by_cases hi : i = 2
    · rw [if_pos hi, if_pos hi]
    · rw [if_neg hi, if_neg hi, if_neg hi]
  · unfold XX; dsimp only [m_tm, m_cn, m_fs, m_wf, m_wg, m_wb, m_gv, m_gz, m_gi, m_cv, m_st, m_sw, m_tv, m_tw, m_rv, m_rw, p_tm, p_cn, p_fs, p_wf, p_wg, p_wb, p_gv, p_gz, p_gi, p_cv, p_st, p_sw, p_tv, p_tw, p_rv, p_rw]; rw [if_neg hq, if_neg hq]
set_option maxHeartbeats 4000000 in
set_option maxRecDepth 100000 in
theorem X_i0 (x : Int32) : fl_i (XX v) 0 5 x = XX (mkV (x) v.cn v.fs v.wf v.wg v.wb v.gv v.gz v.gi v.cv v.st v.sw v.tv v.tw v.rv v.rw) := by
  refine Prod.ext (va_eq1 ?_ (fun q hq => ?_)) rfl
  · show upd z32 5 x = upd (upd z32 5 v.tm) 5 x
    funext i; unfold upd; by_cases hi : i = 5
    · rw [if_pos hi, if_pos hi]
    · rw [if_neg hi, if_neg hi, if_neg hi]
  · unfold XX; dsimp only [m_tm, m_cn, m_fs, m_wf, m_wg, m_wb, m_gv, m_gz, m_gi, m_cv, m_st, m_sw, m_tv, m_tw, m_rv, m_rw, p_tm, p_cn, p_fs, p_wf, p_wg, p_wb, p_gv, p_gz, p_gi, p_cv, p_st, p_sw, p_tv, p_tw, p_rv, p_rw]; rw [if_neg hq, if_neg hq]
set_option maxHeartbeats 4000000 in
set_option maxRecDepth 100000 in
theorem X_i18 (j : Nat) (x : Int32) : fl_i (XX v) 18 j x = XX (mkV v.tm v.cn v.fs v.wf v.wg v.wb v.gv v.gz v.gi v.cv (upd v.st j x) v.sw v.tv v.tw v.rv v.rw) := by
  refine Prod.ext (va_eq1 rfl (fun q hq => ?_)) rfl
  unfold XX; dsimp only [m_tm, m_cn, m_fs, m_wf, m_wg, m_wb, m_gv, m_gz, m_gi, m_cv, m_st, m_sw, m_tv, m_tw, m_rv, m_rw, p_tm, p_cn, p_fs, p_wf, p_wg, p_wb, p_gv, p_gz, p_gi, p_cv, p_st, p_sw, p_tv, p_tw, p_rv, p_rw]; rw [if_neg hq, if_neg hq]
set_option maxHeartbeats 4000000 in
set_option maxRecDepth 100000 in
theorem X_i6 (j : Nat) (x : Int32) : fl_i (XX v) 6 j x = XX (mkV v.tm v.cn v.fs (va_up v.wf 0 (upd (v.wf 0) j x)) v.wg v.wb v.gv v.gz v.gi v.cv v.st v.sw v.tv v.tw v.rv v.rw) := by
  refine Prod.ext (va_eq1 (show va_up v.wf 0 (upd (v.wf 0) j x) 0 = _ from va_up_self _ _ _) (fun q hq => ?_)) rfl
  unfold XX; dsimp only [m_tm, m_cn, m_fs, m_wf, m_wg, m_wb, m_gv, m_gz, m_gi, m_cv, m_st, m_sw, m_tv, m_tw, m_rv, m_rw, p_tm, p_cn, p_fs, p_wf, p_wg, p_wb, p_gv, p_gz, p_gi, p_cv, p_st, p_sw, p_tv, p_tw, p_rv, p_rw]; simp only [if_neg hq, va_up_ne v.wf _ (show 1 ≠ 0 by decide)]
set_option maxHeartbeats 4000000 in
set_option maxRecDepth 100000 in
theorem X_i8 (j : Nat) (x : Int32) : fl_i (XX v) 8 j x = XX (mkV v.tm v.cn v.fs (va_up v.wf 1 (upd (v.wf 1) j x)) v.wg v.wb v.gv v.gz v.gi v.cv v.st v.sw v.tv v.tw v.rv v.rw) := by
  refine Prod.ext (va_eq1 (show va_up v.wf 1 (upd (v.wf 1) j x) 1 = _ from va_up_self _ _ _) (fun q hq => ?_)) rfl
  unfold XX; dsimp only [m_tm, m_cn, m_fs, m_wf, m_wg, m_wb, m_gv, m_gz, m_gi, m_cv, m_st, m_sw, m_tv, m_tw, m_rv, m_rw, p_tm, p_cn, p_fs, p_wf, p_wg, p_wb, p_gv, p_gz, p_gi, p_cv, p_st, p_sw, p_tv, p_tw, p_rv, p_rw]; simp only [if_neg hq, va_up_ne v.wf _ (show 0 ≠ 1 by decide)]
set_option maxHeartbeats 4000000 in
set_option maxRecDepth 100000 in
theorem X_i2 (h : f < 4) (j : Nat) (x : Int32) : fl_i (XX v) (2 + f) j x = XX (mkV v.tm v.cn (va_up v.fs f (upd (v.fs f) j x)) v.wf v.wg v.wb v.gv v.gz v.gi v.cv v.st v.sw v.tv v.tw v.rv v.rw) := by
  refine Prod.ext (va_eq1 ?_ (fun q hq => ?_)) rfl
  · rw [X_fs _ h, X_fs _ h]; exact va_up_self _ _ _
  · unfold XX; dsimp only [m_tm, m_cn, m_fs, m_wf, m_wg, m_wb, m_gv, m_gz, m_gi, m_cv, m_st, m_sw, m_tv, m_tw, m_rv, m_rw, p_tm, p_cn, p_fs, p_wf, p_wg, p_wb, p_gv, p_gz, p_gi, p_cv, p_st, p_sw, p_tv, p_tw, p_rv, p_rw]
    by_cases h1 : 2 ≤ q ∧ q < 6
    · rw [va_up_ne v.fs _ (show q - 2 ≠ f by omega)]
    · simp only [if_neg h1]
set_option maxHeartbeats 4000000 in
set_option maxRecDepth 100000 in
theorem X_i20 (h : f < 4) (j : Nat) (x : Int32) : fl_i (XX v) (20 + f) j x = XX (mkV v.tm v.cn v.fs v.wf v.wg v.wb v.gv v.gz v.gi v.cv v.st (va_up v.sw f (upd (v.sw f) j x)) v.tv v.tw v.rv v.rw) := by
  refine Prod.ext (va_eq1 ?_ (fun q hq => ?_)) rfl
  · rw [X_sw _ h, X_sw _ h]; exact va_up_self _ _ _
  · unfold XX; dsimp only [m_tm, m_cn, m_fs, m_wf, m_wg, m_wb, m_gv, m_gz, m_gi, m_cv, m_st, m_sw, m_tv, m_tw, m_rv, m_rw, p_tm, p_cn, p_fs, p_wf, p_wg, p_wb, p_gv, p_gz, p_gi, p_cv, p_st, p_sw, p_tv, p_tw, p_rv, p_rw]
    by_cases h1 : 20 ≤ q ∧ q < 24
    · rw [va_up_ne v.sw _ (show q - 20 ≠ f by omega)]
    · simp only [if_neg h1]
set_option maxHeartbeats 4000000 in
set_option maxRecDepth 100000 in
theorem X_pGF (a z : Nat → Int32) (g : Nat → Int64) : pGF (XX v) a z g = XX (mkV v.tm v.cn v.fs v.wf v.wg v.wb (a) (z) (g) v.cv v.st v.sw v.tv v.tw v.rv v.rw) := by
  refine Prod.ext (va_eq1 rfl (fun q hq => ?_)) (va_eq1L rfl (fun q hq => ?_))
  · rw [va_up_at]
    by_cases h : q = 11
    · rw [if_pos h, h]; rfl
    · rw [if_neg h]; unfold XX; dsimp only [m_tm, m_cn, m_fs, m_wf, m_wg, m_wb, m_gv, m_gz, m_gi, m_cv, m_st, m_sw, m_tv, m_tw, m_rv, m_rw, p_tm, p_cn, p_fs, p_wf, p_wg, p_wb, p_gv, p_gz, p_gi, p_cv, p_st, p_sw, p_tv, p_tw, p_rv, p_rw]; rw [if_neg hq, if_neg hq, if_neg h, if_neg h]
  · unfold XX; dsimp only [m_tm, m_cn, m_fs, m_wf, m_wg, m_wb, m_gv, m_gz, m_gi, m_cv, m_st, m_sw, m_tv, m_tw, m_rv, m_rw, p_tm, p_cn, p_fs, p_wf, p_wg, p_wb, p_gv, p_gz, p_gi, p_cv, p_st, p_sw, p_tv, p_tw, p_rv, p_rw]; rw [if_neg hq, if_neg hq]
set_option maxHeartbeats 4000000 in
set_option maxRecDepth 100000 in
theorem X_pW6 (a : Nat → Int32) (g b : Nat → Int64) : pWY (XX v) 6 a g b = XX (mkV v.tm v.cn v.fs (va_up v.wf 0 a) (va_up v.wg 0 g) (va_up v.wb 0 b) v.gv v.gz v.gi v.cv v.st v.sw v.tv v.tw v.rv v.rw) := by
  refine Prod.ext (va_eq1 (show va_up v.wf 0 a 0 = _ from va_up_self _ _ _) (fun q hq => ?_)) (va_eq1L (show va_up v.wb 0 b 0 = _ from va_up_self _ _ _) (fun q hq => ?_))
  · unfold XX; dsimp only [m_tm, m_cn, m_fs, m_wf, m_wg, m_wb, m_gv, m_gz, m_gi, m_cv, m_st, m_sw, m_tv, m_tw, m_rv, m_rw, p_tm, p_cn, p_fs, p_wf, p_wg, p_wb, p_gv, p_gz, p_gi, p_cv, p_st, p_sw, p_tv, p_tw, p_rv, p_rw]; simp only [if_neg hq, va_up_ne v.wf _ (show 1 ≠ 0 by decide)]
  · rw [va_up_at]
    by_cases h : q = 6
    · rw [if_pos h, h]; exact (show va_up v.wg 0 g 0 = _ from va_up_self _ _ _).symm
    · rw [if_neg h]; unfold XX; dsimp only [m_tm, m_cn, m_fs, m_wf, m_wg, m_wb, m_gv, m_gz, m_gi, m_cv, m_st, m_sw, m_tv, m_tw, m_rv, m_rw, p_tm, p_cn, p_fs, p_wf, p_wg, p_wb, p_gv, p_gz, p_gi, p_cv, p_st, p_sw, p_tv, p_tw, p_rv, p_rw]
      have hq' : ¬ q = 7 := hq
      simp only [if_neg hq', if_neg h, va_up_ne v.wg _ (show 1 ≠ 0 by decide), va_up_ne v.wb _ (show 1 ≠ 0 by decide)]
set_option maxHeartbeats 4000000 in
set_option maxRecDepth 100000 in
theorem X_pW8 (a : Nat → Int32) (g b : Nat → Int64) : pWY (XX v) 8 a g b = XX (mkV v.tm v.cn v.fs (va_up v.wf 1 a) (va_up v.wg 1 g) (va_up v.wb 1 b) v.gv v.gz v.gi v.cv v.st v.sw v.tv v.tw v.rv v.rw) := by
  refine Prod.ext (va_eq1 (show va_up v.wf 1 a 1 = _ from va_up_self _ _ _) (fun q hq => ?_)) (va_eq1L (show va_up v.wb 1 b 1 = _ from va_up_self _ _ _) (fun q hq => ?_))
  · unfold XX; dsimp only [m_tm, m_cn, m_fs, m_wf, m_wg, m_wb, m_gv, m_gz, m_gi, m_cv, m_st, m_sw, m_tv, m_tw, m_rv, m_rw, p_tm, p_cn, p_fs, p_wf, p_wg, p_wb, p_gv, p_gz, p_gi, p_cv, p_st, p_sw, p_tv, p_tw, p_rv, p_rw]; simp only [if_neg hq, va_up_ne v.wf _ (show 0 ≠ 1 by decide)]
  · rw [va_up_at]
    by_cases h : q = 8
    · rw [if_pos h, h]; exact (show va_up v.wg 1 g 1 = _ from va_up_self _ _ _).symm
    · rw [if_neg h]; unfold XX; dsimp only [m_tm, m_cn, m_fs, m_wf, m_wg, m_wb, m_gv, m_gz, m_gi, m_cv, m_st, m_sw, m_tv, m_tw, m_rv, m_rw, p_tm, p_cn, p_fs, p_wf, p_wg, p_wb, p_gv, p_gz, p_gi, p_cv, p_st, p_sw, p_tv, p_tw, p_rv, p_rw]
      have hq' : ¬ q = 9 := hq
      simp only [if_neg hq', if_neg h, va_up_ne v.wg _ (show 0 ≠ 1 by decide), va_up_ne v.wb _ (show 0 ≠ 1 by decide)]
end
