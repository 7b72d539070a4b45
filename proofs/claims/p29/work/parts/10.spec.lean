/-! A SKY: its state, its cells, what its methods answer -/
abbrev F : Type := Nat → Int32
abbrev Sky : Type := F × F × F × F × F × F × F × F × Int32 × Int32 × Int32 × Int32
def sNu (σ : Sky) : F := σ.1
def sSt (σ : Sky) : F := σ.2.1
def sHt (σ : Sky) : F := σ.2.2.1
def sFr (σ : Sky) : F := σ.2.2.2.1
def sRe (σ : Sky) : F := σ.2.2.2.2.1
def sCu (σ : Sky) : F := σ.2.2.2.2.2.1
def sWi (σ : Sky) : F := σ.2.2.2.2.2.2.1
def sCf (σ : Sky) : F := σ.2.2.2.2.2.2.2.1
def sBs (σ : Sky) : Int32 := σ.2.2.2.2.2.2.2.2.1
def sRs (σ : Sky) : Int32 := σ.2.2.2.2.2.2.2.2.2.1
def sCh (σ : Sky) : Int32 := σ.2.2.2.2.2.2.2.2.2.2.1
def sSi (σ : Sky) : Int32 := σ.2.2.2.2.2.2.2.2.2.2.2
def pNu (σ : Sky) (j : Nat) (v : Int32) : Sky := (upd σ.1 j v, σ.2)
def pSt (σ : Sky) (j : Nat) (v : Int32) : Sky := (σ.1, upd σ.2.1 j v, σ.2.2)
def pHt (σ : Sky) (j : Nat) (v : Int32) : Sky := (σ.1, σ.2.1, upd σ.2.2.1 j v, σ.2.2.2)
def pFr (σ : Sky) (j : Nat) (v : Int32) : Sky := (σ.1, σ.2.1, σ.2.2.1, upd σ.2.2.2.1 j v, σ.2.2.2.2)
def pRe (σ : Sky) (j : Nat) (v : Int32) : Sky := (σ.1, σ.2.1, σ.2.2.1, σ.2.2.2.1, upd σ.2.2.2.2.1 j v, σ.2.2.2.2.2)
def pCu (σ : Sky) (j : Nat) (v : Int32) : Sky := (σ.1, σ.2.1, σ.2.2.1, σ.2.2.2.1, σ.2.2.2.2.1, upd σ.2.2.2.2.2.1 j v, σ.2.2.2.2.2.2)
def pWi (σ : Sky) (j : Nat) (v : Int32) : Sky := (σ.1, σ.2.1, σ.2.2.1, σ.2.2.2.1, σ.2.2.2.2.1, σ.2.2.2.2.2.1, upd σ.2.2.2.2.2.2.1 j v, σ.2.2.2.2.2.2.2)
def pCf (σ : Sky) (j : Nat) (v : Int32) : Sky := (σ.1, σ.2.1, σ.2.2.1, σ.2.2.2.1, σ.2.2.2.2.1, σ.2.2.2.2.2.1, σ.2.2.2.2.2.2.1, upd σ.2.2.2.2.2.2.2.1 j v, σ.2.2.2.2.2.2.2.2)
def uBs (σ : Sky) (v : Int32) : Sky := (σ.1, σ.2.1, σ.2.2.1, σ.2.2.2.1, σ.2.2.2.2.1, σ.2.2.2.2.2.1, σ.2.2.2.2.2.2.1, σ.2.2.2.2.2.2.2.1, v, σ.2.2.2.2.2.2.2.2.2)
def uRs (σ : Sky) (v : Int32) : Sky := (σ.1, σ.2.1, σ.2.2.1, σ.2.2.2.1, σ.2.2.2.2.1, σ.2.2.2.2.2.1, σ.2.2.2.2.2.2.1, σ.2.2.2.2.2.2.2.1, σ.2.2.2.2.2.2.2.2.1, v, σ.2.2.2.2.2.2.2.2.2.2)
def uCh (σ : Sky) (v : Int32) : Sky := (σ.1, σ.2.1, σ.2.2.1, σ.2.2.2.1, σ.2.2.2.2.1, σ.2.2.2.2.2.1, σ.2.2.2.2.2.2.1, σ.2.2.2.2.2.2.2.1, σ.2.2.2.2.2.2.2.2.1, σ.2.2.2.2.2.2.2.2.2.1, v, σ.2.2.2.2.2.2.2.2.2.2.2)
def uSi (σ : Sky) (v : Int32) : Sky := (σ.1, σ.2.1, σ.2.2.1, σ.2.2.2.1, σ.2.2.2.2.1, σ.2.2.2.2.2.1, σ.2.2.2.2.2.2.1, σ.2.2.2.2.2.2.2.1, σ.2.2.2.2.2.2.2.2.1, σ.2.2.2.2.2.2.2.2.2.1, σ.2.2.2.2.2.2.2.2.2.2.1, v)
def skyW (E : Ev) (h : Nat) (a : Nat → Nat) (σ : Sky) : va_W := [(h, .inr (2, [.ref (a 0), .ref (a 1), .ref (a 2), .ref (a 3), .ref (a 4), .ref (a 5), .ref (a 6), .ref (a 7), .int (sBs σ), .int (sRs σ), .int (sCh σ), .int (sSi σ)])), (a 0, .inl (E.2.2 0, 12, .inl (sNu σ))), (a 1, .inl (E.2.2 0, 12, .inl (sSt σ))), (a 2, .inl (E.2.2 0, 12, .inl (sHt σ))), (a 3, .inl (E.2.2 1, 12, .inl (sFr σ))), (a 4, .inl (E.2.2 0, 12, .inl (sRe σ))), (a 5, .inl (E.2.2 0, 12, .inl (sCu σ))), (a 6, .inl (E.2.2 0, 8, .inl (sWi σ))), (a 7, .inl (E.2.2 0, 4, .inl (sCf σ)))]
theorem qNu_Nu (σ : Sky) (j : Nat) (v : Int32) : sNu (pNu σ j v) = upd (sNu σ) j v := rfl
theorem qSt_Nu (σ : Sky) (j : Nat) (v : Int32) : sSt (pNu σ j v) = sSt σ := rfl
theorem qHt_Nu (σ : Sky) (j : Nat) (v : Int32) : sHt (pNu σ j v) = sHt σ := rfl
theorem qFr_Nu (σ : Sky) (j : Nat) (v : Int32) : sFr (pNu σ j v) = sFr σ := rfl
theorem qRe_Nu (σ : Sky) (j : Nat) (v : Int32) : sRe (pNu σ j v) = sRe σ := rfl
theorem qCu_Nu (σ : Sky) (j : Nat) (v : Int32) : sCu (pNu σ j v) = sCu σ := rfl
theorem qWi_Nu (σ : Sky) (j : Nat) (v : Int32) : sWi (pNu σ j v) = sWi σ := rfl
theorem qCf_Nu (σ : Sky) (j : Nat) (v : Int32) : sCf (pNu σ j v) = sCf σ := rfl
theorem qBs_Nu (σ : Sky) (j : Nat) (v : Int32) : sBs (pNu σ j v) = sBs σ := rfl
theorem qRs_Nu (σ : Sky) (j : Nat) (v : Int32) : sRs (pNu σ j v) = sRs σ := rfl
theorem qCh_Nu (σ : Sky) (j : Nat) (v : Int32) : sCh (pNu σ j v) = sCh σ := rfl
theorem qSi_Nu (σ : Sky) (j : Nat) (v : Int32) : sSi (pNu σ j v) = sSi σ := rfl
theorem qNu_St (σ : Sky) (j : Nat) (v : Int32) : sNu (pSt σ j v) = sNu σ := rfl
theorem qSt_St (σ : Sky) (j : Nat) (v : Int32) : sSt (pSt σ j v) = upd (sSt σ) j v := rfl
theorem qHt_St (σ : Sky) (j : Nat) (v : Int32) : sHt (pSt σ j v) = sHt σ := rfl
theorem qFr_St (σ : Sky) (j : Nat) (v : Int32) : sFr (pSt σ j v) = sFr σ := rfl
theorem qRe_St (σ : Sky) (j : Nat) (v : Int32) : sRe (pSt σ j v) = sRe σ := rfl
theorem qCu_St (σ : Sky) (j : Nat) (v : Int32) : sCu (pSt σ j v) = sCu σ := rfl
theorem qWi_St (σ : Sky) (j : Nat) (v : Int32) : sWi (pSt σ j v) = sWi σ := rfl
theorem qCf_St (σ : Sky) (j : Nat) (v : Int32) : sCf (pSt σ j v) = sCf σ := rfl
theorem qBs_St (σ : Sky) (j : Nat) (v : Int32) : sBs (pSt σ j v) = sBs σ := rfl
theorem qRs_St (σ : Sky) (j : Nat) (v : Int32) : sRs (pSt σ j v) = sRs σ := rfl
theorem qCh_St (σ : Sky) (j : Nat) (v : Int32) : sCh (pSt σ j v) = sCh σ := rfl
theorem qSi_St (σ : Sky) (j : Nat) (v : Int32) : sSi (pSt σ j v) = sSi σ := rfl
theorem qNu_Ht (σ : Sky) (j : Nat) (v : Int32) : sNu (pHt σ j v) = sNu σ := rfl
theorem qSt_Ht (σ : Sky) (j : Nat) (v : Int32) : sSt (pHt σ j v) = sSt σ := rfl
theorem qHt_Ht (σ : Sky) (j : Nat) (v : Int32) : sHt (pHt σ j v) = upd (sHt σ) j v := rfl
theorem qFr_Ht (σ : Sky) (j : Nat) (v : Int32) : sFr (pHt σ j v) = sFr σ := rfl
theorem qRe_Ht (σ : Sky) (j : Nat) (v : Int32) : sRe (pHt σ j v) = sRe σ := rfl
theorem qCu_Ht (σ : Sky) (j : Nat) (v : Int32) : sCu (pHt σ j v) = sCu σ := rfl
theorem qWi_Ht (σ : Sky) (j : Nat) (v : Int32) : sWi (pHt σ j v) = sWi σ := rfl
theorem qCf_Ht (σ : Sky) (j : Nat) (v : Int32) : sCf (pHt σ j v) = sCf σ := rfl
theorem qBs_Ht (σ : Sky) (j : Nat) (v : Int32) : sBs (pHt σ j v) = sBs σ := rfl
theorem qRs_Ht (σ : Sky) (j : Nat) (v : Int32) : sRs (pHt σ j v) = sRs σ := rfl
theorem qCh_Ht (σ : Sky) (j : Nat) (v : Int32) : sCh (pHt σ j v) = sCh σ := rfl
theorem qSi_Ht (σ : Sky) (j : Nat) (v : Int32) : sSi (pHt σ j v) = sSi σ := rfl
theorem qNu_Fr (σ : Sky) (j : Nat) (v : Int32) : sNu (pFr σ j v) = sNu σ := rfl
theorem qSt_Fr (σ : Sky) (j : Nat) (v : Int32) : sSt (pFr σ j v) = sSt σ := rfl
theorem qHt_Fr (σ : Sky) (j : Nat) (v : Int32) : sHt (pFr σ j v) = sHt σ := rfl
theorem qFr_Fr (σ : Sky) (j : Nat) (v : Int32) : sFr (pFr σ j v) = upd (sFr σ) j v := rfl
theorem qRe_Fr (σ : Sky) (j : Nat) (v : Int32) : sRe (pFr σ j v) = sRe σ := rfl
theorem qCu_Fr (σ : Sky) (j : Nat) (v : Int32) : sCu (pFr σ j v) = sCu σ := rfl
theorem qWi_Fr (σ : Sky) (j : Nat) (v : Int32) : sWi (pFr σ j v) = sWi σ := rfl
theorem qCf_Fr (σ : Sky) (j : Nat) (v : Int32) : sCf (pFr σ j v) = sCf σ := rfl
theorem qBs_Fr (σ : Sky) (j : Nat) (v : Int32) : sBs (pFr σ j v) = sBs σ := rfl
theorem qRs_Fr (σ : Sky) (j : Nat) (v : Int32) : sRs (pFr σ j v) = sRs σ := rfl
theorem qCh_Fr (σ : Sky) (j : Nat) (v : Int32) : sCh (pFr σ j v) = sCh σ := rfl
theorem qSi_Fr (σ : Sky) (j : Nat) (v : Int32) : sSi (pFr σ j v) = sSi σ := rfl
theorem qNu_Re (σ : Sky) (j : Nat) (v : Int32) : sNu (pRe σ j v) = sNu σ := rfl
theorem qSt_Re (σ : Sky) (j : Nat) (v : Int32) : sSt (pRe σ j v) = sSt σ := rfl
theorem qHt_Re (σ : Sky) (j : Nat) (v : Int32) : sHt (pRe σ j v) = sHt σ := rfl
theorem qFr_Re (σ : Sky) (j : Nat) (v : Int32) : sFr (pRe σ j v) = sFr σ := rfl
theorem qRe_Re (σ : Sky) (j : Nat) (v : Int32) : sRe (pRe σ j v) = upd (sRe σ) j v := rfl
theorem qCu_Re (σ : Sky) (j : Nat) (v : Int32) : sCu (pRe σ j v) = sCu σ := rfl
theorem qWi_Re (σ : Sky) (j : Nat) (v : Int32) : sWi (pRe σ j v) = sWi σ := rfl
theorem qCf_Re (σ : Sky) (j : Nat) (v : Int32) : sCf (pRe σ j v) = sCf σ := rfl
theorem qBs_Re (σ : Sky) (j : Nat) (v : Int32) : sBs (pRe σ j v) = sBs σ := rfl
theorem qRs_Re (σ : Sky) (j : Nat) (v : Int32) : sRs (pRe σ j v) = sRs σ := rfl
theorem qCh_Re (σ : Sky) (j : Nat) (v : Int32) : sCh (pRe σ j v) = sCh σ := rfl
theorem qSi_Re (σ : Sky) (j : Nat) (v : Int32) : sSi (pRe σ j v) = sSi σ := rfl
theorem qNu_Cu (σ : Sky) (j : Nat) (v : Int32) : sNu (pCu σ j v) = sNu σ := rfl
theorem qSt_Cu (σ : Sky) (j : Nat) (v : Int32) : sSt (pCu σ j v) = sSt σ := rfl
theorem qHt_Cu (σ : Sky) (j : Nat) (v : Int32) : sHt (pCu σ j v) = sHt σ := rfl
theorem qFr_Cu (σ : Sky) (j : Nat) (v : Int32) : sFr (pCu σ j v) = sFr σ := rfl
theorem qRe_Cu (σ : Sky) (j : Nat) (v : Int32) : sRe (pCu σ j v) = sRe σ := rfl
theorem qCu_Cu (σ : Sky) (j : Nat) (v : Int32) : sCu (pCu σ j v) = upd (sCu σ) j v := rfl
theorem qWi_Cu (σ : Sky) (j : Nat) (v : Int32) : sWi (pCu σ j v) = sWi σ := rfl
theorem qCf_Cu (σ : Sky) (j : Nat) (v : Int32) : sCf (pCu σ j v) = sCf σ := rfl
theorem qBs_Cu (σ : Sky) (j : Nat) (v : Int32) : sBs (pCu σ j v) = sBs σ := rfl
theorem qRs_Cu (σ : Sky) (j : Nat) (v : Int32) : sRs (pCu σ j v) = sRs σ := rfl
theorem qCh_Cu (σ : Sky) (j : Nat) (v : Int32) : sCh (pCu σ j v) = sCh σ := rfl
theorem qSi_Cu (σ : Sky) (j : Nat) (v : Int32) : sSi (pCu σ j v) = sSi σ := rfl
theorem qNu_Wi (σ : Sky) (j : Nat) (v : Int32) : sNu (pWi σ j v) = sNu σ := rfl
theorem qSt_Wi (σ : Sky) (j : Nat) (v : Int32) : sSt (pWi σ j v) = sSt σ := rfl
theorem qHt_Wi (σ : Sky) (j : Nat) (v : Int32) : sHt (pWi σ j v) = sHt σ := rfl
theorem qFr_Wi (σ : Sky) (j : Nat) (v : Int32) : sFr (pWi σ j v) = sFr σ := rfl
theorem qRe_Wi (σ : Sky) (j : Nat) (v : Int32) : sRe (pWi σ j v) = sRe σ := rfl
theorem qCu_Wi (σ : Sky) (j : Nat) (v : Int32) : sCu (pWi σ j v) = sCu σ := rfl
theorem qWi_Wi (σ : Sky) (j : Nat) (v : Int32) : sWi (pWi σ j v) = upd (sWi σ) j v := rfl
theorem qCf_Wi (σ : Sky) (j : Nat) (v : Int32) : sCf (pWi σ j v) = sCf σ := rfl
theorem qBs_Wi (σ : Sky) (j : Nat) (v : Int32) : sBs (pWi σ j v) = sBs σ := rfl
theorem qRs_Wi (σ : Sky) (j : Nat) (v : Int32) : sRs (pWi σ j v) = sRs σ := rfl
theorem qCh_Wi (σ : Sky) (j : Nat) (v : Int32) : sCh (pWi σ j v) = sCh σ := rfl
theorem qSi_Wi (σ : Sky) (j : Nat) (v : Int32) : sSi (pWi σ j v) = sSi σ := rfl
theorem qNu_Cf (σ : Sky) (j : Nat) (v : Int32) : sNu (pCf σ j v) = sNu σ := rfl
theorem qSt_Cf (σ : Sky) (j : Nat) (v : Int32) : sSt (pCf σ j v) = sSt σ := rfl
theorem qHt_Cf (σ : Sky) (j : Nat) (v : Int32) : sHt (pCf σ j v) = sHt σ := rfl
theorem qFr_Cf (σ : Sky) (j : Nat) (v : Int32) : sFr (pCf σ j v) = sFr σ := rfl
theorem qRe_Cf (σ : Sky) (j : Nat) (v : Int32) : sRe (pCf σ j v) = sRe σ := rfl
theorem qCu_Cf (σ : Sky) (j : Nat) (v : Int32) : sCu (pCf σ j v) = sCu σ := rfl
theorem qWi_Cf (σ : Sky) (j : Nat) (v : Int32) : sWi (pCf σ j v) = sWi σ := rfl
theorem qCf_Cf (σ : Sky) (j : Nat) (v : Int32) : sCf (pCf σ j v) = upd (sCf σ) j v := rfl
theorem qBs_Cf (σ : Sky) (j : Nat) (v : Int32) : sBs (pCf σ j v) = sBs σ := rfl
theorem qRs_Cf (σ : Sky) (j : Nat) (v : Int32) : sRs (pCf σ j v) = sRs σ := rfl
theorem qCh_Cf (σ : Sky) (j : Nat) (v : Int32) : sCh (pCf σ j v) = sCh σ := rfl
theorem qSi_Cf (σ : Sky) (j : Nat) (v : Int32) : sSi (pCf σ j v) = sSi σ := rfl
theorem qNu_Bs (σ : Sky) (v : Int32) : sNu (uBs σ v) = sNu σ := rfl
theorem qSt_Bs (σ : Sky) (v : Int32) : sSt (uBs σ v) = sSt σ := rfl
theorem qHt_Bs (σ : Sky) (v : Int32) : sHt (uBs σ v) = sHt σ := rfl
theorem qFr_Bs (σ : Sky) (v : Int32) : sFr (uBs σ v) = sFr σ := rfl
theorem qRe_Bs (σ : Sky) (v : Int32) : sRe (uBs σ v) = sRe σ := rfl
theorem qCu_Bs (σ : Sky) (v : Int32) : sCu (uBs σ v) = sCu σ := rfl
theorem qWi_Bs (σ : Sky) (v : Int32) : sWi (uBs σ v) = sWi σ := rfl
theorem qCf_Bs (σ : Sky) (v : Int32) : sCf (uBs σ v) = sCf σ := rfl
theorem qBs_Bs (σ : Sky) (v : Int32) : sBs (uBs σ v) = v := rfl
theorem qRs_Bs (σ : Sky) (v : Int32) : sRs (uBs σ v) = sRs σ := rfl
theorem qCh_Bs (σ : Sky) (v : Int32) : sCh (uBs σ v) = sCh σ := rfl
theorem qSi_Bs (σ : Sky) (v : Int32) : sSi (uBs σ v) = sSi σ := rfl
theorem qNu_Rs (σ : Sky) (v : Int32) : sNu (uRs σ v) = sNu σ := rfl
theorem qSt_Rs (σ : Sky) (v : Int32) : sSt (uRs σ v) = sSt σ := rfl
theorem qHt_Rs (σ : Sky) (v : Int32) : sHt (uRs σ v) = sHt σ := rfl
theorem qFr_Rs (σ : Sky) (v : Int32) : sFr (uRs σ v) = sFr σ := rfl
theorem qRe_Rs (σ : Sky) (v : Int32) : sRe (uRs σ v) = sRe σ := rfl
theorem qCu_Rs (σ : Sky) (v : Int32) : sCu (uRs σ v) = sCu σ := rfl
theorem qWi_Rs (σ : Sky) (v : Int32) : sWi (uRs σ v) = sWi σ := rfl
theorem qCf_Rs (σ : Sky) (v : Int32) : sCf (uRs σ v) = sCf σ := rfl
theorem qBs_Rs (σ : Sky) (v : Int32) : sBs (uRs σ v) = sBs σ := rfl
theorem qRs_Rs (σ : Sky) (v : Int32) : sRs (uRs σ v) = v := rfl
theorem qCh_Rs (σ : Sky) (v : Int32) : sCh (uRs σ v) = sCh σ := rfl
theorem qSi_Rs (σ : Sky) (v : Int32) : sSi (uRs σ v) = sSi σ := rfl
theorem qNu_Ch (σ : Sky) (v : Int32) : sNu (uCh σ v) = sNu σ := rfl
theorem qSt_Ch (σ : Sky) (v : Int32) : sSt (uCh σ v) = sSt σ := rfl
theorem qHt_Ch (σ : Sky) (v : Int32) : sHt (uCh σ v) = sHt σ := rfl
theorem qFr_Ch (σ : Sky) (v : Int32) : sFr (uCh σ v) = sFr σ := rfl
theorem qRe_Ch (σ : Sky) (v : Int32) : sRe (uCh σ v) = sRe σ := rfl
theorem qCu_Ch (σ : Sky) (v : Int32) : sCu (uCh σ v) = sCu σ := rfl
theorem qWi_Ch (σ : Sky) (v : Int32) : sWi (uCh σ v) = sWi σ := rfl
theorem qCf_Ch (σ : Sky) (v : Int32) : sCf (uCh σ v) = sCf σ := rfl
theorem qBs_Ch (σ : Sky) (v : Int32) : sBs (uCh σ v) = sBs σ := rfl
theorem qRs_Ch (σ : Sky) (v : Int32) : sRs (uCh σ v) = sRs σ := rfl
theorem qCh_Ch (σ : Sky) (v : Int32) : sCh (uCh σ v) = v := rfl
theorem qSi_Ch (σ : Sky) (v : Int32) : sSi (uCh σ v) = sSi σ := rfl
theorem qNu_Si (σ : Sky) (v : Int32) : sNu (uSi σ v) = sNu σ := rfl
theorem qSt_Si (σ : Sky) (v : Int32) : sSt (uSi σ v) = sSt σ := rfl
theorem qHt_Si (σ : Sky) (v : Int32) : sHt (uSi σ v) = sHt σ := rfl
theorem qFr_Si (σ : Sky) (v : Int32) : sFr (uSi σ v) = sFr σ := rfl
theorem qRe_Si (σ : Sky) (v : Int32) : sRe (uSi σ v) = sRe σ := rfl
theorem qCu_Si (σ : Sky) (v : Int32) : sCu (uSi σ v) = sCu σ := rfl
theorem qWi_Si (σ : Sky) (v : Int32) : sWi (uSi σ v) = sWi σ := rfl
theorem qCf_Si (σ : Sky) (v : Int32) : sCf (uSi σ v) = sCf σ := rfl
theorem qBs_Si (σ : Sky) (v : Int32) : sBs (uSi σ v) = sBs σ := rfl
theorem qRs_Si (σ : Sky) (v : Int32) : sRs (uSi σ v) = sRs σ := rfl
theorem qCh_Si (σ : Sky) (v : Int32) : sCh (uSi σ v) = sCh σ := rfl
theorem qSi_Si (σ : Sky) (v : Int32) : sSi (uSi σ v) = v := rfl
abbrev isK (st : F) (k : Int32) : Prop := 0 ≤ k ∧ k < 12 ∧ ¬ st k.toNatClampNeg = -1
abbrev isS (s : Int32) : Prop := 0 ≤ s ∧ s < 4
abbrev isB (b : Int32) : Prop := 0 ≤ b ∧ b < 8
abbrev isN (n : Int32) : Prop := -999 ≤ n ∧ n ≤ 999
def tk (st ht : F) (s h : Int32) : Bool := (List.range 12).any fun k => st k == s && ht k == h
theorem tk_iff {st ht : F} {s h : Int32} : tk st ht s h = true ↔ ∃ k, k < 12 ∧ st k = s ∧ ht k = h := by
  simp [tk, List.any_eq_true]
def landF (st ht : F) (s : Int32) : Nat → Int32 → Int32
  | 0, h => h
  | n + 1, h => if tk st ht s h = true then landF st ht s n (h + 1) else h
abbrev land (st ht : F) (s h : Int32) : Int32 := landF st ht s 12 h
def sumN (f : F) : Nat → Int32
  | 0 => 0
  | n + 1 => sumN f n + f n
def kbF (st ht : F) (s lo hi : Int32) : F := fun k => if st k = s ∧ lo < ht k ∧ ht k < hi then 1 else 0
abbrev kitesB (st ht : F) (s lo hi : Int32) : Int32 := sumN (kbF st ht s lo hi) 12
def lowF (st ht : F) (s h : Int32) : Nat → Int32 × Int32
  | 0 => (-10005, 1000000)
  | k + 1 => if st k = s ∧ h < ht k ∧ ht k < (lowF st ht s h k).2 then (nI k, ht k) else lowF st ht s h k
abbrev low (st ht : F) (s h : Int32) : Int32 := (lowF st ht s h 12).1
def higF (st ht : F) (s h : Int32) : Nat → Int32 × Int32
  | 0 => (-10005, -1)
  | k + 1 => if st k = s ∧ ht k < h ∧ (higF st ht s h k).2 < ht k then (nI k, ht k) else higF st ht s h k
abbrev hig (st ht : F) (s h : Int32) : Int32 := (higF st ht s h 12).1
def weF (st ht : F) (s : Int32) : F := fun k => if st k = s then ht k + 1 else 0
abbrev weig (st ht : F) (s : Int32) : Int32 := sumN (weF st ht s) 12
def nuF (st nu : F) (s : Int32) : F := fun k => if st k = s then nu k else 0
abbrev nums (st nu : F) (s : Int32) : Int32 := sumN (nuF st nu s) 12
def drF (st ht : F) (s p : Int32) : Nat → Nat → Int32 → Int32
  | 0, _, _ => -10002
  | n + 1, k, e => if st k = s then (if p < e + (ht k + 1) then nI k else drF st ht s p n (k + 1) (e + (ht k + 1))) else drF st ht s p n (k + 1) e
def drawR (st ht : F) (s p : Int32) : Int32 := if isS s then (if p < 0 then -10002 else drF st ht s p 12 0 0) else -10001
def sfB (st ht : F) (ch w : Int32) : Bool := (List.range 12).all fun k => st k == -1 || !(decide (ch < land st ht (st k) (ht k + w + 1)))
theorem sfB_iff {st ht : F} {ch w : Int32} : sfB st ht ch w = true ↔ ∀ k, k < 12 → ¬ st k = -1 → ¬ ch < land st ht (st k) (ht k + w + 1) := by
  simp only [sfB, List.all_eq_true, List.mem_range, Bool.or_eq_true, beq_iff_eq, Bool.not_eq_true', decide_eq_false_iff_not]
  constructor
  · intro h k hk hn
    rcases h k hk with h1 | h1
    · exact absurd h1 hn
    · exact h1
  · intro h k hk
    by_cases hn : st k = -1
    · exact Or.inl hn
    · exact Or.inr (h k hk hn)
def gsF (st ht : F) (ch : Int32) : Nat → Int32
  | 0 => -10005
  | n + 1 => if sfB st ht ch (nI n) = true then nI n else gsF st ht ch n
abbrev clP (st ht : F) (s o : Int32) : Prop := land st ht s 0 < land st ht o 0 ∨ land st ht s 0 = land st ht o 0 ∧ weig st ht s < weig st ht o
def clF (st ht : F) : Nat → Int32
  | 0 => 0
  | n + 1 => if clP st ht (nI (n + 1)) (clF st ht n) then nI (n + 1) else clF st ht n
def liF (st : F) : F := fun k => if st k = -1 then 0 else 1
abbrev allK (st : F) : Int32 := sumN (liF st) 12
def frF (st fr : F) : F := fun k => if ¬ st k = -1 ∧ ¬ fr k = 0 then 1 else 0
abbrev frsh (st fr : F) : Int32 := sumN (frF st fr) 12
def mxF (st ht : F) : Nat → Int32
  | 0 => 0
  | k + 1 => if st k = -1 then mxF st ht k else (if mxF st ht k < ht k then ht k else mxF st ht k)
def fmo8 (b : Int32) : Nat := b.toBitVec.toNat % 8
def shaR (st ht : F) (k : Int32) : Int32 := if isK st k then (if 0 < weig st ht (st k.toNatClampNeg) then (ht k.toNatClampNeg + 1) * 1000 / weig st ht (st k.toNatClampNeg) else 0) else -10001
def rcF (st ht : F) (s w ch : Int32) : Nat → Nat → Int32 → Int32
  | 0, _, _ => 100
  | n + 1, r, h => if ch < land st ht s (h + w + 1) then nI r else rcF st ht s w ch n (r + 1) (land st ht s (h + w + 1))
def rcR (st ht : F) (w ch k : Int32) : Int32 := if isK st k then rcF st ht (st k.toNatClampNeg) w ch 99 1 (ht k.toNatClampNeg) else -10001
/-! acts: the answer, and the state behind it -/
def ff (P : Nat → Bool) : Nat → Nat → Nat
  | 0, i => i
  | n + 1, i => if P i = true then i else ff P n (i + 1)
def freeK (st : F) : Nat := ff (fun j => st j == -1) 12 0
def launchG (σ : Sky) (s n : Int32) (k : Nat) : Sky := pCu (pRe (pFr (pNu (pSt (pHt σ k (land (sSt σ) (sHt σ) s 0)) k s) k n) k 0) k 0) k 0
def launchR (σ : Sky) (s n : Int32) : Int32 × Sky := if isS s then (if isN n then (if freeK (sSt σ) < 12 then (nI (freeK (sSt σ)), launchG σ s n (freeK (sSt σ))) else (-10003, σ)) else (-10002, σ)) else (-10001, σ)
def removeR (σ : Sky) (k : Int32) : Int32 × Sky := if isK (sSt σ) k then (sNu σ k.toNatClampNeg, pSt σ k.toNatClampNeg (-1)) else (-10001, σ)
def ccF (σ : Sky) (s : Int32) : Sky := if isS s then pCf σ s.toNatClampNeg (sCf σ s.toNatClampNeg + 1) else σ
def behi (s : Int32) : Int32 := s + 1 - (s + 1) / 4 * 4
abbrev windN (σ : Sky) : Int32 := sWi σ (fmo8 (sBs σ))
abbrev risenH (σ : Sky) (j : Nat) (w : Int32) : Int32 := land (sSt σ) (sHt σ) (sSt σ j) (sHt σ j + w + 1)
def raiseE (σ : Sky) (j : Nat) (s h : Int32) : Sky := uRs (pRe (pFr (pHt (pSt σ j s) j h) j 1) j (sRe σ j + 1)) (sRs σ + 1)
def raiseC (σ : Sky) (j : Nat) : Sky := ccF (pCu σ j (sCu σ j + 1)) (sSt σ j)
def raiseG (σ : Sky) (j : Nat) : Sky := if sCh σ < risenH σ j (windN σ) then raiseE (raiseC σ j) j (behi (sSt σ j)) (land (sSt (raiseC σ j)) (sHt (raiseC σ j)) (behi (sSt σ j)) 0) else raiseE σ j (sSt σ j) (risenH σ j (windN σ))
def raiseR (σ : Sky) (k : Int32) : Int32 × Sky := if isK (sSt σ) k then (sNu (raiseG σ k.toNatClampNeg) k.toNatClampNeg, raiseG σ k.toNatClampNeg) else (-10001, σ)
def renumR (σ : Sky) (k n : Int32) : Int32 × Sky := if isK (sSt σ) k then (if isN n then (sNu σ k.toNatClampNeg, pFr (pNu σ k.toNatClampNeg n) k.toNatClampNeg 1) else (-10002, σ)) else (-10001, σ)
def shiftG (σ : Sky) (j : Nat) (s : Int32) : Sky := pSt (pHt σ j (land (sSt σ) (sHt σ) s (sHt σ j))) j s
def shiftR (σ : Sky) (k s : Int32) : Int32 × Sky := if isK (sSt σ) k ∧ isS s then (if sSt σ k.toNatClampNeg = s then (-10005, σ) else (land (sSt σ) (sHt σ) s (sHt σ k.toNatClampNeg), shiftG σ k.toNatClampNeg s)) else (-10001, σ)
def maxI (x y : Int32) : Int32 := if x < y then y else x
/-- one kite of a string sinks; behind it: the state -/
def sinkO (σ : Sky) (j : Nat) (fl : Int32) : Sky := if sFr σ j = 0 then pHt σ j (maxI fl (sHt σ j - sSi σ)) else σ
def sinkF (s : Int32) : Nat → Int32 → Int32 → Sky → Sky
  | 0, _, _, σ => σ
  | n + 1, fl, pa, σ => if isK (sSt σ) (low (sSt σ) (sHt σ) s pa) then sinkF s n (sHt (sinkO σ (low (sSt σ) (sHt σ) s pa).toNatClampNeg fl) (low (sSt σ) (sHt σ) s pa).toNatClampNeg + 1) (sHt σ (low (sSt σ) (sHt σ) s pa).toNatClampNeg) (sinkO σ (low (sSt σ) (sHt σ) s pa).toNatClampNeg fl) else σ
abbrev sinkS (σ : Sky) (s : Int32) : Sky := sinkF s 12 0 (-1) σ
def sinkN (σ : Sky) : Nat → Sky
  | 0 => σ
  | n + 1 => sinkS (sinkN σ n) (nI n)
def endN (σ : Sky) : Nat → Sky
  | 0 => σ
  | n + 1 => pFr (endN σ n) n 0
abbrev endF (σ : Sky) : Sky := endN σ 12
def beat1 (σ : Sky) : Sky := uBs (endF (sinkN σ 4)) (sBs (endF (sinkN σ 4)) + 1)
def beatN (σ : Sky) : Nat → Sky
  | 0 => σ
  | n + 1 => beat1 (beatN σ n)
def beatR (σ : Sky) (n : Int32) : Int32 × Sky := if 1 ≤ n ∧ n ≤ 100 then (nI (fmo8 (sBs (beatN σ n.toNatClampNeg))), beatN σ n.toNatClampNeg) else (-10002, σ)
def windR (σ : Sky) (b w : Int32) : Int32 × Sky := if isB b then (if 0 ≤ w ∧ w ≤ 9 then (if sWi σ b.toNatClampNeg = w then (-10005, σ) else (sWi σ b.toNatClampNeg, pWi σ b.toNatClampNeg w)) else (-10002, σ)) else (-10001, σ)
def cutR (σ : Sky) (v : Int32) : Int32 × Sky := if 5 ≤ v ∧ v ≤ 80 then (if sCh σ = v then (-10005, σ) else (sCh σ, uCh σ v)) else (-10002, σ)
def sinR (σ : Sky) (v : Int32) : Int32 × Sky := if 0 ≤ v ∧ v ≤ 9 then (if sSi σ = v then (-10005, σ) else (sSi σ, uSi σ v)) else (-10002, σ)
def setR (σ : Sky) (w v : Int32) : Int32 × Sky := if w = 0 then cutR σ v else if w = 1 then sinR σ v else (-10001, σ)
def carryR (σ : Sky) (v a b : Int32) : Int32 × Sky := if v = 0 then launchR σ a b else if v = 1 then raiseR σ a else if v = 2 then renumR σ a b else if v = 3 then beatR σ a else if v = 4 then windR σ a b else (-10002, σ)
def suF (j : Nat) (g : Int32) : Nat → Nat → Sky → Int32
  | 0, _, _ => -10005
  | n + 1, b, σ => if sHt σ j ≤ g then nI b else suF j g n (b + 1) (endF (sinkS σ (sSt σ j)))
def suR (σ : Sky) (k g : Int32) : Int32 := if isK (sSt σ) k then (if 0 ≤ g ∧ g ≤ 99 then suF k.toNatClampNeg g 201 0 σ else -10002) else -10001
/-! what is told -/
def aboutKG (σ : Sky) (j : Nat) (w : Int32) : Int32 := if w = 0 then sNu σ j else if w = 1 then sSt σ j else if w = 2 then sHt σ j else if w = 3 then (if sFr σ j = 0 then 0 else 1) else if w = 4 then sRe σ j else if w = 5 then sCu σ j else if w = 6 then kitesB (sSt σ) (sHt σ) (sSt σ j) (sHt σ j) 1000000 else if w = 7 then low (sSt σ) (sHt σ) (sSt σ j) (sHt σ j) else if w = 8 then hig (sSt σ) (sHt σ) (sSt σ j) (sHt σ j) else -10002
def aboutKR (σ : Sky) (k w : Int32) : Int32 := if isK (sSt σ) k then aboutKG σ k.toNatClampNeg w else -10001
def aboutRG (σ : Sky) (j : Nat) (w : Int32) : Int32 :=
  if sCh σ < risenH σ j (windN σ) then (if w = 0 then behi (sSt σ j) else if w = 1 then land (sSt σ) (sHt σ) (behi (sSt σ j)) 0 else if w = 2 then 1 else if w = 3 then 0 else -10002)
  else (if w = 0 then sSt σ j else if w = 1 then risenH σ j (windN σ) else if w = 2 then 0 else if w = 3 then kitesB (sSt σ) (sHt σ) (sSt σ j) (sHt σ j) (risenH σ j (windN σ)) else -10002)
def aboutRR (σ : Sky) (k w : Int32) : Int32 := if isK (sSt σ) k then aboutRG σ k.toNatClampNeg w else -10001
def aboutSG (σ : Sky) (s w : Int32) : Int32 := if w = 0 then kitesB (sSt σ) (sHt σ) s (-1) 1000000 else if w = 1 then weig (sSt σ) (sHt σ) s else if w = 2 then hig (sSt σ) (sHt σ) s 1000000 else if w = 3 then low (sSt σ) (sHt σ) s (-1) else if w = 4 then nums (sSt σ) (sNu σ) s else if w = 5 then sCf σ s.toNatClampNeg else -10002
def aboutSR (σ : Sky) (s w : Int32) : Int32 := if isS s then aboutSG σ s w else -10001
def windAR (σ : Sky) (b : Int32) : Int32 := if isB b then sWi σ b.toNatClampNeg else -10001
def wAllF (σ : Sky) : F := fun s => weig (sSt σ) (sHt σ) (nI s)
def aboutAR (σ : Sky) (w : Int32) : Int32 := if w = 0 then allK (sSt σ) else if w = 1 then nI (fmo8 (sBs σ)) else if w = 2 then windN σ else if w = 3 then sRs σ else if w = 4 then sumN (sCf σ) 4 else if w = 5 then frsh (sSt σ) (sFr σ) else if w = 6 then mxF (sSt σ) (sHt σ) 12 else if w = 7 then sumN (wAllF σ) 4 else if w = 8 then sCh σ else if w = 9 then sSi σ else if w = 10 then sBs σ else -10002
/-! the shapes of contracts' ends -/
def pE (X : Int32) (W : va_W) : Int32 → va_W → Prop := fun r w => r = X ∧ w = W
def pB (X : Prop) (W : va_W) : Int32 → va_W → Prop := fun r w => (X ∧ r = 1 ∨ ¬ X ∧ r = 0) ∧ w = W
def pS (E : Ev) (h : Nat) (a : Nat → Nat) (X : Int32 × Sky) : Int32 → va_W → Prop := fun r w => r = X.1 ∧ w = skyW E h a X.2
theorem pE_mk {X Y : Int32} {W Z : va_W} (h : Y = X) (h2 : Z = W) : pE X W Y Z := ⟨h, h2⟩
theorem pS_mk {E : Ev} {h : Nat} {a : Nat → Nat} {X : Int32 × Sky} {r : Int32} {σ : Sky} {W : va_W} (e : X = (r, σ)) (h2 : W = skyW E h a σ) : pS E h a X r W := ⟨by rw [e], by rw [e]; exact h2⟩
def rmD (n : Nat) : Room := { frames := n, cells := 0, slots := 0, locals := 32 * n }
theorem fitD {a b n : Nat} (h : a + 1 ≤ b) (hn : n ≤ 13) : Fit (rmD a) (rmD b) n := ⟨⟨rfl, rfl⟩, h, by show 8 + (n + 11) + 32 * a ≤ 32 * b; omega⟩
theorem i32_of {k M : Int32} {n : Nat} (h0 : 0 ≤ k) (h1 : k < M) (hM : M.toInt = n) : ∃ j : Nat, j < n ∧ k = nI j := by
  have hk : ¬ k < 0 := by
    rw [Int32.lt_iff_toInt_lt]; rw [Int32.le_iff_toInt_le] at h0; omega
  obtain ⟨j, hj, rfl⟩ := nI_of hk
  rw [Int32.lt_iff_toInt_lt, nI_toInt hj] at h1
  exact ⟨j, by omega, rfl⟩
theorem i32_le {x y : Int32} : ¬ x < y ↔ y ≤ x := by rw [Int32.lt_iff_toInt_lt, Int32.le_iff_toInt_le]; omega
theorem i32_lt {x y : Int32} : ¬ x ≤ y ↔ y < x := by rw [Int32.lt_iff_toInt_lt, Int32.le_iff_toInt_le]; omega
theorem sw_out2 {x : Int32} (h0 : ¬ x = 0) (h1 : ¬ x = 1) : x.toInt < 0 ∨ 1 < x.toInt := by
  have g : ∀ (k : Int32), ¬ x = k → ¬ x.toInt = k.toInt := fun k h e => h (Int32.toInt_inj.mp e)
  have g0 : ¬ x.toInt = 0 := g 0 h0
  have g1 : ¬ x.toInt = 1 := g 1 h1
  omega
theorem sw_out3 {x : Int32} (h0 : ¬ x = 0) (h1 : ¬ x = 1) (h2 : ¬ x = 2) : x.toInt < 0 ∨ 2 < x.toInt := by
  have g : ∀ (k : Int32), ¬ x = k → ¬ x.toInt = k.toInt := fun k h e => h (Int32.toInt_inj.mp e)
  have g0 : ¬ x.toInt = 0 := g 0 h0
  have g1 : ¬ x.toInt = 1 := g 1 h1
  have g2 : ¬ x.toInt = 2 := g 2 h2
  omega
theorem sw_out4 {x : Int32} (h0 : ¬ x = 0) (h1 : ¬ x = 1) (h2 : ¬ x = 2) (h3 : ¬ x = 3) : x.toInt < 0 ∨ 3 < x.toInt := by
  have g : ∀ (k : Int32), ¬ x = k → ¬ x.toInt = k.toInt := fun k h e => h (Int32.toInt_inj.mp e)
  have g0 : ¬ x.toInt = 0 := g 0 h0
  have g1 : ¬ x.toInt = 1 := g 1 h1
  have g2 : ¬ x.toInt = 2 := g 2 h2
  have g3 : ¬ x.toInt = 3 := g 3 h3
  omega
theorem sw_out5 {x : Int32} (h0 : ¬ x = 0) (h1 : ¬ x = 1) (h2 : ¬ x = 2) (h3 : ¬ x = 3) (h4 : ¬ x = 4) : x.toInt < 0 ∨ 4 < x.toInt := by
  have g : ∀ (k : Int32), ¬ x = k → ¬ x.toInt = k.toInt := fun k h e => h (Int32.toInt_inj.mp e)
  have g0 : ¬ x.toInt = 0 := g 0 h0
  have g1 : ¬ x.toInt = 1 := g 1 h1
  have g2 : ¬ x.toInt = 2 := g 2 h2
  have g3 : ¬ x.toInt = 3 := g 3 h3
  have g4 : ¬ x.toInt = 4 := g 4 h4
  omega
theorem sw_out6 {x : Int32} (h0 : ¬ x = 0) (h1 : ¬ x = 1) (h2 : ¬ x = 2) (h3 : ¬ x = 3) (h4 : ¬ x = 4) (h5 : ¬ x = 5) : x.toInt < 0 ∨ 5 < x.toInt := by
  have g : ∀ (k : Int32), ¬ x = k → ¬ x.toInt = k.toInt := fun k h e => h (Int32.toInt_inj.mp e)
  have g0 : ¬ x.toInt = 0 := g 0 h0
  have g1 : ¬ x.toInt = 1 := g 1 h1
  have g2 : ¬ x.toInt = 2 := g 2 h2
  have g3 : ¬ x.toInt = 3 := g 3 h3
  have g4 : ¬ x.toInt = 4 := g 4 h4
  have g5 : ¬ x.toInt = 5 := g 5 h5
  omega
theorem sw_out7 {x : Int32} (h0 : ¬ x = 0) (h1 : ¬ x = 1) (h2 : ¬ x = 2) (h3 : ¬ x = 3) (h4 : ¬ x = 4) (h5 : ¬ x = 5) (h6 : ¬ x = 6) : x.toInt < 0 ∨ 6 < x.toInt := by
  have g : ∀ (k : Int32), ¬ x = k → ¬ x.toInt = k.toInt := fun k h e => h (Int32.toInt_inj.mp e)
  have g0 : ¬ x.toInt = 0 := g 0 h0
  have g1 : ¬ x.toInt = 1 := g 1 h1
  have g2 : ¬ x.toInt = 2 := g 2 h2
  have g3 : ¬ x.toInt = 3 := g 3 h3
  have g4 : ¬ x.toInt = 4 := g 4 h4
  have g5 : ¬ x.toInt = 5 := g 5 h5
  have g6 : ¬ x.toInt = 6 := g 6 h6
  omega
theorem sw_out8 {x : Int32} (h0 : ¬ x = 0) (h1 : ¬ x = 1) (h2 : ¬ x = 2) (h3 : ¬ x = 3) (h4 : ¬ x = 4) (h5 : ¬ x = 5) (h6 : ¬ x = 6) (h7 : ¬ x = 7) : x.toInt < 0 ∨ 7 < x.toInt := by
  have g : ∀ (k : Int32), ¬ x = k → ¬ x.toInt = k.toInt := fun k h e => h (Int32.toInt_inj.mp e)
  have g0 : ¬ x.toInt = 0 := g 0 h0
  have g1 : ¬ x.toInt = 1 := g 1 h1
  have g2 : ¬ x.toInt = 2 := g 2 h2
  have g3 : ¬ x.toInt = 3 := g 3 h3
  have g4 : ¬ x.toInt = 4 := g 4 h4
  have g5 : ¬ x.toInt = 5 := g 5 h5
  have g6 : ¬ x.toInt = 6 := g 6 h6
  have g7 : ¬ x.toInt = 7 := g 7 h7
  omega
theorem sw_out9 {x : Int32} (h0 : ¬ x = 0) (h1 : ¬ x = 1) (h2 : ¬ x = 2) (h3 : ¬ x = 3) (h4 : ¬ x = 4) (h5 : ¬ x = 5) (h6 : ¬ x = 6) (h7 : ¬ x = 7) (h8 : ¬ x = 8) : x.toInt < 0 ∨ 8 < x.toInt := by
  have g : ∀ (k : Int32), ¬ x = k → ¬ x.toInt = k.toInt := fun k h e => h (Int32.toInt_inj.mp e)
  have g0 : ¬ x.toInt = 0 := g 0 h0
  have g1 : ¬ x.toInt = 1 := g 1 h1
  have g2 : ¬ x.toInt = 2 := g 2 h2
  have g3 : ¬ x.toInt = 3 := g 3 h3
  have g4 : ¬ x.toInt = 4 := g 4 h4
  have g5 : ¬ x.toInt = 5 := g 5 h5
  have g6 : ¬ x.toInt = 6 := g 6 h6
  have g7 : ¬ x.toInt = 7 := g 7 h7
  have g8 : ¬ x.toInt = 8 := g 8 h8
  omega
theorem sw_out10 {x : Int32} (h0 : ¬ x = 0) (h1 : ¬ x = 1) (h2 : ¬ x = 2) (h3 : ¬ x = 3) (h4 : ¬ x = 4) (h5 : ¬ x = 5) (h6 : ¬ x = 6) (h7 : ¬ x = 7) (h8 : ¬ x = 8) (h9 : ¬ x = 9) : x.toInt < 0 ∨ 9 < x.toInt := by
  have g : ∀ (k : Int32), ¬ x = k → ¬ x.toInt = k.toInt := fun k h e => h (Int32.toInt_inj.mp e)
  have g0 : ¬ x.toInt = 0 := g 0 h0
  have g1 : ¬ x.toInt = 1 := g 1 h1
  have g2 : ¬ x.toInt = 2 := g 2 h2
  have g3 : ¬ x.toInt = 3 := g 3 h3
  have g4 : ¬ x.toInt = 4 := g 4 h4
  have g5 : ¬ x.toInt = 5 := g 5 h5
  have g6 : ¬ x.toInt = 6 := g 6 h6
  have g7 : ¬ x.toInt = 7 := g 7 h7
  have g8 : ¬ x.toInt = 8 := g 8 h8
  have g9 : ¬ x.toInt = 9 := g 9 h9
  omega
theorem sw_out11 {x : Int32} (h0 : ¬ x = 0) (h1 : ¬ x = 1) (h2 : ¬ x = 2) (h3 : ¬ x = 3) (h4 : ¬ x = 4) (h5 : ¬ x = 5) (h6 : ¬ x = 6) (h7 : ¬ x = 7) (h8 : ¬ x = 8) (h9 : ¬ x = 9) (h10 : ¬ x = 10) : x.toInt < 0 ∨ 10 < x.toInt := by
  have g : ∀ (k : Int32), ¬ x = k → ¬ x.toInt = k.toInt := fun k h e => h (Int32.toInt_inj.mp e)
  have g0 : ¬ x.toInt = 0 := g 0 h0
  have g1 : ¬ x.toInt = 1 := g 1 h1
  have g2 : ¬ x.toInt = 2 := g 2 h2
  have g3 : ¬ x.toInt = 3 := g 3 h3
  have g4 : ¬ x.toInt = 4 := g 4 h4
  have g5 : ¬ x.toInt = 5 := g 5 h5
  have g6 : ¬ x.toInt = 6 := g 6 h6
  have g7 : ¬ x.toInt = 7 := g 7 h7
  have g8 : ¬ x.toInt = 8 := g 8 h8
  have g9 : ¬ x.toInt = 9 := g 9 h9
  have g10 : ¬ x.toInt = 10 := g 10 h10
  omega
theorem sw_out12 {x : Int32} (h0 : ¬ x = 0) (h1 : ¬ x = 1) (h2 : ¬ x = 2) (h3 : ¬ x = 3) (h4 : ¬ x = 4) (h5 : ¬ x = 5) (h6 : ¬ x = 6) (h7 : ¬ x = 7) (h8 : ¬ x = 8) (h9 : ¬ x = 9) (h10 : ¬ x = 10) (h11 : ¬ x = 11) : x.toInt < 0 ∨ 11 < x.toInt := by
  have g : ∀ (k : Int32), ¬ x = k → ¬ x.toInt = k.toInt := fun k h e => h (Int32.toInt_inj.mp e)
  have g0 : ¬ x.toInt = 0 := g 0 h0
  have g1 : ¬ x.toInt = 1 := g 1 h1
  have g2 : ¬ x.toInt = 2 := g 2 h2
  have g3 : ¬ x.toInt = 3 := g 3 h3
  have g4 : ¬ x.toInt = 4 := g 4 h4
  have g5 : ¬ x.toInt = 5 := g 5 h5
  have g6 : ¬ x.toInt = 6 := g 6 h6
  have g7 : ¬ x.toInt = 7 := g 7 h7
  have g8 : ¬ x.toInt = 8 := g 8 h8
  have g9 : ¬ x.toInt = 9 := g 9 h9
  have g10 : ¬ x.toInt = 10 := g 10 h10
  have g11 : ¬ x.toInt = 11 := g 11 h11
  omega
theorem sw_out13 {x : Int32} (h0 : ¬ x = 0) (h1 : ¬ x = 1) (h2 : ¬ x = 2) (h3 : ¬ x = 3) (h4 : ¬ x = 4) (h5 : ¬ x = 5) (h6 : ¬ x = 6) (h7 : ¬ x = 7) (h8 : ¬ x = 8) (h9 : ¬ x = 9) (h10 : ¬ x = 10) (h11 : ¬ x = 11) (h12 : ¬ x = 12) : x.toInt < 0 ∨ 12 < x.toInt := by
  have g : ∀ (k : Int32), ¬ x = k → ¬ x.toInt = k.toInt := fun k h e => h (Int32.toInt_inj.mp e)
  have g0 : ¬ x.toInt = 0 := g 0 h0
  have g1 : ¬ x.toInt = 1 := g 1 h1
  have g2 : ¬ x.toInt = 2 := g 2 h2
  have g3 : ¬ x.toInt = 3 := g 3 h3
  have g4 : ¬ x.toInt = 4 := g 4 h4
  have g5 : ¬ x.toInt = 5 := g 5 h5
  have g6 : ¬ x.toInt = 6 := g 6 h6
  have g7 : ¬ x.toInt = 7 := g 7 h7
  have g8 : ¬ x.toInt = 8 := g 8 h8
  have g9 : ¬ x.toInt = 9 := g 9 h9
  have g10 : ¬ x.toInt = 10 := g 10 h10
  have g11 : ¬ x.toInt = 11 := g 11 h11
  have g12 : ¬ x.toInt = 12 := g 12 h12
  omega
theorem sw_out14 {x : Int32} (h0 : ¬ x = 0) (h1 : ¬ x = 1) (h2 : ¬ x = 2) (h3 : ¬ x = 3) (h4 : ¬ x = 4) (h5 : ¬ x = 5) (h6 : ¬ x = 6) (h7 : ¬ x = 7) (h8 : ¬ x = 8) (h9 : ¬ x = 9) (h10 : ¬ x = 10) (h11 : ¬ x = 11) (h12 : ¬ x = 12) (h13 : ¬ x = 13) : x.toInt < 0 ∨ 13 < x.toInt := by
  have g : ∀ (k : Int32), ¬ x = k → ¬ x.toInt = k.toInt := fun k h e => h (Int32.toInt_inj.mp e)
  have g0 : ¬ x.toInt = 0 := g 0 h0
  have g1 : ¬ x.toInt = 1 := g 1 h1
  have g2 : ¬ x.toInt = 2 := g 2 h2
  have g3 : ¬ x.toInt = 3 := g 3 h3
  have g4 : ¬ x.toInt = 4 := g 4 h4
  have g5 : ¬ x.toInt = 5 := g 5 h5
  have g6 : ¬ x.toInt = 6 := g 6 h6
  have g7 : ¬ x.toInt = 7 := g 7 h7
  have g8 : ¬ x.toInt = 8 := g 8 h8
  have g9 : ¬ x.toInt = 9 := g 9 h9
  have g10 : ¬ x.toInt = 10 := g 10 h10
  have g11 : ¬ x.toInt = 11 := g 11 h11
  have g12 : ¬ x.toInt = 12 := g 12 h12
  have g13 : ¬ x.toInt = 13 := g 13 h13
  omega
